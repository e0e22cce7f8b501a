section
-- ===== PART A: goes FIRST, ahead of the names: the tables' words, and 'selects' of the private methods out of them =====
/-- a private method of a class that the tables say can be made, by its rows of tables_1 -/
def lw_okq (q : MethodName × Nat) : Prop := (q.1.cls ≠ "java/lang/invoke/MethodHandle" ∧ q.1.cls ≠ "java/lang/invoke/VarHandle") ∧ Cond.instantiable q.1.cls q.2 ∈ tables_1 ∧ Cond.privateMethod q.1 ∈ tables_1 ∧ Cond.instanceMethod q.1 ∈ tables_1
theorem lw_p0 : lw_okq (⟨"TrackNights", "countAligned", "()I"⟩, 13) := ⟨⟨by decide +kernel, by decide +kernel⟩, List.mem_of_getElem? (i := 27) (by decide +kernel), List.mem_of_getElem? (i := 173) (by decide +kernel), List.mem_of_getElem? (i := 174) (by decide +kernel)⟩
theorem lw_p1 : lw_okq (⟨"TrackNights", "countPossessions", "(I)I"⟩, 13) := ⟨⟨by decide +kernel, by decide +kernel⟩, List.mem_of_getElem? (i := 27) (by decide +kernel), List.mem_of_getElem? (i := 192) (by decide +kernel), List.mem_of_getElem? (i := 193) (by decide +kernel)⟩
theorem lw_p2 : lw_okq (⟨"TrackNights", "countTrueRisks", "()I"⟩, 13) := ⟨⟨by decide +kernel, by decide +kernel⟩, List.mem_of_getElem? (i := 27) (by decide +kernel), List.mem_of_getElem? (i := 197) (by decide +kernel), List.mem_of_getElem? (i := 198) (by decide +kernel)⟩
theorem lw_p3 : lw_okq (⟨"TrackNights$Values", "speedByWear", "()I"⟩, 3) := ⟨⟨by decide +kernel, by decide +kernel⟩, List.mem_of_getElem? (i := 66) (by decide +kernel), List.mem_of_getElem? (i := 213) (by decide +kernel), List.mem_of_getElem? (i := 214) (by decide +kernel)⟩
theorem lw_p4 : lw_okq (⟨"TrackNights$Values", "speedByCrack", "()I"⟩, 3) := ⟨⟨by decide +kernel, by decide +kernel⟩, List.mem_of_getElem? (i := 66) (by decide +kernel), List.mem_of_getElem? (i := 217) (by decide +kernel), List.mem_of_getElem? (i := 218) (by decide +kernel)⟩
theorem lw_p5 : lw_okq (⟨"TrackNights$Values", "speedBySettle", "()I"⟩, 3) := ⟨⟨by decide +kernel, by decide +kernel⟩, List.mem_of_getElem? (i := 66) (by decide +kernel), List.mem_of_getElem? (i := 224) (by decide +kernel), List.mem_of_getElem? (i := 225) (by decide +kernel)⟩
theorem lw_p6 : lw_okq (⟨"TrackNights", "countKnownRisks", "()I"⟩, 13) := ⟨⟨by decide +kernel, by decide +kernel⟩, List.mem_of_getElem? (i := 27) (by decide +kernel), List.mem_of_getElem? (i := 231) (by decide +kernel), List.mem_of_getElem? (i := 232) (by decide +kernel)⟩
theorem lw_p7 : lw_okq (⟨"TrackNights", "knownValues", "(I)LTrackNights$Values;"⟩, 13) := ⟨⟨by decide +kernel, by decide +kernel⟩, List.mem_of_getElem? (i := 27) (by decide +kernel), List.mem_of_getElem? (i := 235) (by decide +kernel), List.mem_of_getElem? (i := 236) (by decide +kernel)⟩
theorem lw_p8 : lw_okq (⟨"TrackNights", "knowingMeasure", "(I)I"⟩, 13) := ⟨⟨by decide +kernel, by decide +kernel⟩, List.mem_of_getElem? (i := 27) (by decide +kernel), List.mem_of_getElem? (i := 239) (by decide +kernel), List.mem_of_getElem? (i := 240) (by decide +kernel)⟩
theorem lw_p9 : lw_okq (⟨"TrackNights$Measure", "writtenFor", "(II)LTrackNights$Values;"⟩, 4) := ⟨⟨by decide +kernel, by decide +kernel⟩, List.mem_of_getElem? (i := 253) (by decide +kernel), List.mem_of_getElem? (i := 251) (by decide +kernel), List.mem_of_getElem? (i := 252) (by decide +kernel)⟩
theorem lw_p10 : lw_okq (⟨"java/lang/Throwable", "fillInStackTrace", "(I)Ljava/lang/Throwable;"⟩, 6) := ⟨⟨by decide +kernel, by decide +kernel⟩, List.mem_of_getElem? (i := 295) (by decide +kernel), List.mem_of_getElem? (i := 293) (by decide +kernel), List.mem_of_getElem? (i := 294) (by decide +kernel)⟩
theorem lw_p11 : lw_okq (⟨"TrackNights", "digestSection", "(JI)J"⟩, 13) := ⟨⟨by decide +kernel, by decide +kernel⟩, List.mem_of_getElem? (i := 27) (by decide +kernel), List.mem_of_getElem? (i := 325) (by decide +kernel), List.mem_of_getElem? (i := 326) (by decide +kernel)⟩
theorem lw_p12 : lw_okq (⟨"TrackNights", "sectionAt", "(I)LTrackNights$Section;"⟩, 13) := ⟨⟨by decide +kernel, by decide +kernel⟩, List.mem_of_getElem? (i := 27) (by decide +kernel), List.mem_of_getElem? (i := 333) (by decide +kernel), List.mem_of_getElem? (i := 334) (by decide +kernel)⟩
theorem lw_p13 : lw_okq (⟨"TrackNights", "checkSection", "(I)V"⟩, 13) := ⟨⟨by decide +kernel, by decide +kernel⟩, List.mem_of_getElem? (i := 27) (by decide +kernel), List.mem_of_getElem? (i := 337) (by decide +kernel), List.mem_of_getElem? (i := 338) (by decide +kernel)⟩
theorem lw_p14 : lw_okq (⟨"TrackNights", "checkTrains", "(I)V"⟩, 13) := ⟨⟨by decide +kernel, by decide +kernel⟩, List.mem_of_getElem? (i := 27) (by decide +kernel), List.mem_of_getElem? (i := 382) (by decide +kernel), List.mem_of_getElem? (i := 383) (by decide +kernel)⟩
theorem lw_p15 : lw_okq (⟨"TrackNights$Section", "crackGrowth", "()I"⟩, 5) := ⟨⟨by decide +kernel, by decide +kernel⟩, List.mem_of_getElem? (i := 90) (by decide +kernel), List.mem_of_getElem? (i := 396) (by decide +kernel), List.mem_of_getElem? (i := 397) (by decide +kernel)⟩
def lw_privs_1 : List (MethodName × Nat) := [(⟨"TrackNights", "countAligned", "()I"⟩, 13), (⟨"TrackNights", "countPossessions", "(I)I"⟩, 13), (⟨"TrackNights", "countTrueRisks", "()I"⟩, 13), (⟨"TrackNights$Values", "speedByWear", "()I"⟩, 3), (⟨"TrackNights$Values", "speedByCrack", "()I"⟩, 3), (⟨"TrackNights$Values", "speedBySettle", "()I"⟩, 3), (⟨"TrackNights", "countKnownRisks", "()I"⟩, 13), (⟨"TrackNights", "knownValues", "(I)LTrackNights$Values;"⟩, 13), (⟨"TrackNights", "knowingMeasure", "(I)I"⟩, 13), (⟨"TrackNights$Measure", "writtenFor", "(II)LTrackNights$Values;"⟩, 4), (⟨"java/lang/Throwable", "fillInStackTrace", "(I)Ljava/lang/Throwable;"⟩, 6), (⟨"TrackNights", "digestSection", "(JI)J"⟩, 13), (⟨"TrackNights", "sectionAt", "(I)LTrackNights$Section;"⟩, 13), (⟨"TrackNights", "checkSection", "(I)V"⟩, 13), (⟨"TrackNights", "checkTrains", "(I)V"⟩, 13), (⟨"TrackNights$Section", "crackGrowth", "()I"⟩, 5)]
theorem lw_r1 : ∀ q ∈ lw_privs_1, lw_okq q := List.forall_mem_cons.mpr ⟨lw_p0, List.forall_mem_cons.mpr ⟨lw_p1, List.forall_mem_cons.mpr ⟨lw_p2, List.forall_mem_cons.mpr ⟨lw_p3, List.forall_mem_cons.mpr ⟨lw_p4, List.forall_mem_cons.mpr ⟨lw_p5, List.forall_mem_cons.mpr ⟨lw_p6, List.forall_mem_cons.mpr ⟨lw_p7, List.forall_mem_cons.mpr ⟨lw_p8, List.forall_mem_cons.mpr ⟨lw_p9, List.forall_mem_cons.mpr ⟨lw_p10, List.forall_mem_cons.mpr ⟨lw_p11, List.forall_mem_cons.mpr ⟨lw_p12, List.forall_mem_cons.mpr ⟨lw_p13, List.forall_mem_cons.mpr ⟨lw_p14, List.forall_mem_cons.mpr ⟨lw_p15, fun _ h => absurd h List.not_mem_nil⟩⟩⟩⟩⟩⟩⟩⟩⟩⟩⟩⟩⟩⟩⟩⟩
theorem lw_p16 : lw_okq (⟨"TrackNights", "costBehind", "(LTrackNights$Section;III)I"⟩, 13) := ⟨⟨by decide +kernel, by decide +kernel⟩, List.mem_of_getElem? (i := 27) (by decide +kernel), List.mem_of_getElem? (i := 405) (by decide +kernel), List.mem_of_getElem? (i := 406) (by decide +kernel)⟩
theorem lw_p17 : lw_okq (⟨"TrackNights", "machineAt", "(I)LTrackNights$Machine;"⟩, 13) := ⟨⟨by decide +kernel, by decide +kernel⟩, List.mem_of_getElem? (i := 27) (by decide +kernel), List.mem_of_getElem? (i := 427) (by decide +kernel), List.mem_of_getElem? (i := 428) (by decide +kernel)⟩
theorem lw_p18 : lw_okq (⟨"TrackNights", "possessionAt", "(I)LTrackNights$Possession;"⟩, 13) := ⟨⟨by decide +kernel, by decide +kernel⟩, List.mem_of_getElem? (i := 27) (by decide +kernel), List.mem_of_getElem? (i := 438) (by decide +kernel), List.mem_of_getElem? (i := 439) (by decide +kernel)⟩
theorem lw_p19 : lw_okq (⟨"TrackNights", "checkStretch", "(III)V"⟩, 13) := ⟨⟨by decide +kernel, by decide +kernel⟩, List.mem_of_getElem? (i := 27) (by decide +kernel), List.mem_of_getElem? (i := 459) (by decide +kernel), List.mem_of_getElem? (i := 460) (by decide +kernel)⟩
theorem lw_p20 : lw_okq (⟨"TrackNights", "isFree", "(IIII)Z"⟩, 13) := ⟨⟨by decide +kernel, by decide +kernel⟩, List.mem_of_getElem? (i := 27) (by decide +kernel), List.mem_of_getElem? (i := 466) (by decide +kernel), List.mem_of_getElem? (i := 467) (by decide +kernel)⟩
theorem lw_p21 : lw_okq (⟨"TrackNights", "passDay", "(II)V"⟩, 13) := ⟨⟨by decide +kernel, by decide +kernel⟩, List.mem_of_getElem? (i := 27) (by decide +kernel), List.mem_of_getElem? (i := 517) (by decide +kernel), List.mem_of_getElem? (i := 518) (by decide +kernel)⟩
theorem lw_p22 : lw_okq (⟨"TrackNights", "endNightsOf", "(I)V"⟩, 13) := ⟨⟨by decide +kernel, by decide +kernel⟩, List.mem_of_getElem? (i := 27) (by decide +kernel), List.mem_of_getElem? (i := 521) (by decide +kernel), List.mem_of_getElem? (i := 522) (by decide +kernel)⟩
theorem lw_p23 : lw_okq (⟨"TrackNights", "endNight", "(LTrackNights$Possession;I)V"⟩, 13) := ⟨⟨by decide +kernel, by decide +kernel⟩, List.mem_of_getElem? (i := 27) (by decide +kernel), List.mem_of_getElem? (i := 525) (by decide +kernel), List.mem_of_getElem? (i := 526) (by decide +kernel)⟩
theorem lw_p24 : lw_okq (⟨"TrackNights", "hoursTaken", "(LTrackNights$Possession;)I"⟩, 13) := ⟨⟨by decide +kernel, by decide +kernel⟩, List.mem_of_getElem? (i := 27) (by decide +kernel), List.mem_of_getElem? (i := 529) (by decide +kernel), List.mem_of_getElem? (i := 530) (by decide +kernel)⟩
theorem lw_p25 : lw_okq (⟨"TrackNights", "carryOut", "(LTrackNights$Work;)V"⟩, 13) := ⟨⟨by decide +kernel, by decide +kernel⟩, List.mem_of_getElem? (i := 27) (by decide +kernel), List.mem_of_getElem? (i := 538) (by decide +kernel), List.mem_of_getElem? (i := 539) (by decide +kernel)⟩
theorem lw_p26 : lw_okq (⟨"TrackNights", "breakIfCracked", "(LTrackNights$Section;)V"⟩, 13) := ⟨⟨by decide +kernel, by decide +kernel⟩, List.mem_of_getElem? (i := 27) (by decide +kernel), List.mem_of_getElem? (i := 543) (by decide +kernel), List.mem_of_getElem? (i := 544) (by decide +kernel)⟩
theorem lw_p27 : lw_okq (⟨"java/util/ArrayList", "add", "(Ljava/lang/Object;[Ljava/lang/Object;I)V"⟩, 3) := ⟨⟨by decide +kernel, by decide +kernel⟩, List.mem_of_getElem? (i := 37) (by decide +kernel), List.mem_of_getElem? (i := 586) (by decide +kernel), List.mem_of_getElem? (i := 587) (by decide +kernel)⟩
theorem lw_p28 : lw_okq (⟨"java/util/ArrayList", "grow", "()[Ljava/lang/Object;"⟩, 3) := ⟨⟨by decide +kernel, by decide +kernel⟩, List.mem_of_getElem? (i := 37) (by decide +kernel), List.mem_of_getElem? (i := 590) (by decide +kernel), List.mem_of_getElem? (i := 591) (by decide +kernel)⟩
theorem lw_p29 : lw_okq (⟨"java/util/ArrayList", "grow", "(I)[Ljava/lang/Object;"⟩, 3) := ⟨⟨by decide +kernel, by decide +kernel⟩, List.mem_of_getElem? (i := 37) (by decide +kernel), List.mem_of_getElem? (i := 594) (by decide +kernel), List.mem_of_getElem? (i := 595) (by decide +kernel)⟩
theorem lw_p30 : lw_okq (⟨"TrackNights", "isOut", "(LTrackNights$Machine;)Z"⟩, 13) := ⟨⟨by decide +kernel, by decide +kernel⟩, List.mem_of_getElem? (i := 27) (by decide +kernel), List.mem_of_getElem? (i := 687) (by decide +kernel), List.mem_of_getElem? (i := 688) (by decide +kernel)⟩
theorem lw_p31 : lw_okq (⟨"TrackNights", "isElsewhere", "(LTrackNights$Machine;LTrackNights$Possession;)Z"⟩, 13) := ⟨⟨by decide +kernel, by decide +kernel⟩, List.mem_of_getElem? (i := 27) (by decide +kernel), List.mem_of_getElem? (i := 768) (by decide +kernel), List.mem_of_getElem? (i := 769) (by decide +kernel)⟩
def lw_privs_2 : List (MethodName × Nat) := [(⟨"TrackNights", "costBehind", "(LTrackNights$Section;III)I"⟩, 13), (⟨"TrackNights", "machineAt", "(I)LTrackNights$Machine;"⟩, 13), (⟨"TrackNights", "possessionAt", "(I)LTrackNights$Possession;"⟩, 13), (⟨"TrackNights", "checkStretch", "(III)V"⟩, 13), (⟨"TrackNights", "isFree", "(IIII)Z"⟩, 13), (⟨"TrackNights", "passDay", "(II)V"⟩, 13), (⟨"TrackNights", "endNightsOf", "(I)V"⟩, 13), (⟨"TrackNights", "endNight", "(LTrackNights$Possession;I)V"⟩, 13), (⟨"TrackNights", "hoursTaken", "(LTrackNights$Possession;)I"⟩, 13), (⟨"TrackNights", "carryOut", "(LTrackNights$Work;)V"⟩, 13), (⟨"TrackNights", "breakIfCracked", "(LTrackNights$Section;)V"⟩, 13), (⟨"java/util/ArrayList", "add", "(Ljava/lang/Object;[Ljava/lang/Object;I)V"⟩, 3), (⟨"java/util/ArrayList", "grow", "()[Ljava/lang/Object;"⟩, 3), (⟨"java/util/ArrayList", "grow", "(I)[Ljava/lang/Object;"⟩, 3), (⟨"TrackNights", "isOut", "(LTrackNights$Machine;)Z"⟩, 13), (⟨"TrackNights", "isElsewhere", "(LTrackNights$Machine;LTrackNights$Possession;)Z"⟩, 13)]
theorem lw_r2 : ∀ q ∈ lw_privs_2, lw_okq q := List.forall_mem_cons.mpr ⟨lw_p16, List.forall_mem_cons.mpr ⟨lw_p17, List.forall_mem_cons.mpr ⟨lw_p18, List.forall_mem_cons.mpr ⟨lw_p19, List.forall_mem_cons.mpr ⟨lw_p20, List.forall_mem_cons.mpr ⟨lw_p21, List.forall_mem_cons.mpr ⟨lw_p22, List.forall_mem_cons.mpr ⟨lw_p23, List.forall_mem_cons.mpr ⟨lw_p24, List.forall_mem_cons.mpr ⟨lw_p25, List.forall_mem_cons.mpr ⟨lw_p26, List.forall_mem_cons.mpr ⟨lw_p27, List.forall_mem_cons.mpr ⟨lw_p28, List.forall_mem_cons.mpr ⟨lw_p29, List.forall_mem_cons.mpr ⟨lw_p30, List.forall_mem_cons.mpr ⟨lw_p31, fun _ h => absurd h List.not_mem_nil⟩⟩⟩⟩⟩⟩⟩⟩⟩⟩⟩⟩⟩⟩⟩⟩
theorem lw_p32 : lw_okq (⟨"TrackNights", "isTaken", "(I)Z"⟩, 13) := ⟨⟨by decide +kernel, by decide +kernel⟩, List.mem_of_getElem? (i := 27) (by decide +kernel), List.mem_of_getElem? (i := 846) (by decide +kernel), List.mem_of_getElem? (i := 847) (by decide +kernel)⟩
theorem lw_p33 : lw_okq (⟨"TrackNights", "signBeside", "(I)I"⟩, 13) := ⟨⟨by decide +kernel, by decide +kernel⟩, List.mem_of_getElem? (i := 27) (by decide +kernel), List.mem_of_getElem? (i := 850) (by decide +kernel), List.mem_of_getElem? (i := 851) (by decide +kernel)⟩
theorem lw_p34 : lw_okq (⟨"TrackNightsModel", "refuse", "(I)I"⟩, 12) := ⟨⟨by decide +kernel, by decide +kernel⟩, List.mem_of_getElem? (i := 913) (by decide +kernel), List.mem_of_getElem? (i := 979) (by decide +kernel), List.mem_of_getElem? (i := 980) (by decide +kernel)⟩
theorem lw_p35 : lw_okq (⟨"TrackNightsModel", "pass", "(II)I"⟩, 12) := ⟨⟨by decide +kernel, by decide +kernel⟩, List.mem_of_getElem? (i := 913) (by decide +kernel), List.mem_of_getElem? (i := 990) (by decide +kernel), List.mem_of_getElem? (i := 991) (by decide +kernel)⟩
theorem lw_p36 : lw_okq (⟨"TrackNightsModel", "give", "([II)I"⟩, 12) := ⟨⟨by decide +kernel, by decide +kernel⟩, List.mem_of_getElem? (i := 913) (by decide +kernel), List.mem_of_getElem? (i := 1041) (by decide +kernel), List.mem_of_getElem? (i := 1042) (by decide +kernel)⟩
theorem lw_p37 : lw_okq (⟨"TrackNightsModel", "lives", "()[I"⟩, 12) := ⟨⟨by decide +kernel, by decide +kernel⟩, List.mem_of_getElem? (i := 913) (by decide +kernel), List.mem_of_getElem? (i := 1045) (by decide +kernel), List.mem_of_getElem? (i := 1046) (by decide +kernel)⟩
theorem lw_p38 : lw_okq (⟨"TrackNightsModel", "isMachine", "(I)Z"⟩, 12) := ⟨⟨by decide +kernel, by decide +kernel⟩, List.mem_of_getElem? (i := 913) (by decide +kernel), List.mem_of_getElem? (i := 1088) (by decide +kernel), List.mem_of_getElem? (i := 1089) (by decide +kernel)⟩
theorem lw_p39 : lw_okq (⟨"TrackNightsModel", "isFree", "(IIII)Z"⟩, 12) := ⟨⟨by decide +kernel, by decide +kernel⟩, List.mem_of_getElem? (i := 913) (by decide +kernel), List.mem_of_getElem? (i := 1099) (by decide +kernel), List.mem_of_getElem? (i := 1100) (by decide +kernel)⟩
theorem lw_p40 : lw_okq (⟨"TrackNightsModel", "isNight", "(I)Z"⟩, 12) := ⟨⟨by decide +kernel, by decide +kernel⟩, List.mem_of_getElem? (i := 913) (by decide +kernel), List.mem_of_getElem? (i := 1107) (by decide +kernel), List.mem_of_getElem? (i := 1108) (by decide +kernel)⟩
theorem lw_p41 : lw_okq (⟨"TrackNightsModel", "has", "([II)Z"⟩, 12) := ⟨⟨by decide +kernel, by decide +kernel⟩, List.mem_of_getElem? (i := 913) (by decide +kernel), List.mem_of_getElem? (i := 1111) (by decide +kernel), List.mem_of_getElem? (i := 1112) (by decide +kernel)⟩
theorem lw_p42 : lw_okq (⟨"TrackNightsModel", "hours", "(II)I"⟩, 12) := ⟨⟨by decide +kernel, by decide +kernel⟩, List.mem_of_getElem? (i := 913) (by decide +kernel), List.mem_of_getElem? (i := 1115) (by decide +kernel), List.mem_of_getElem? (i := 1116) (by decide +kernel)⟩
theorem lw_p43 : lw_okq (⟨"TrackNightsModel", "isTaken", "(I)Z"⟩, 12) := ⟨⟨by decide +kernel, by decide +kernel⟩, List.mem_of_getElem? (i := 913) (by decide +kernel), List.mem_of_getElem? (i := 1145) (by decide +kernel), List.mem_of_getElem? (i := 1146) (by decide +kernel)⟩
theorem lw_p44 : lw_okq (⟨"TrackNightsModel", "ofSectionNow", "(II)I"⟩, 12) := ⟨⟨by decide +kernel, by decide +kernel⟩, List.mem_of_getElem? (i := 913) (by decide +kernel), List.mem_of_getElem? (i := 1153) (by decide +kernel), List.mem_of_getElem? (i := 1154) (by decide +kernel)⟩
theorem lw_p45 : lw_okq (⟨"TrackNightsModel", "knownNow", "(II)I"⟩, 12) := ⟨⟨by decide +kernel, by decide +kernel⟩, List.mem_of_getElem? (i := 913) (by decide +kernel), List.mem_of_getElem? (i := 1161) (by decide +kernel), List.mem_of_getElem? (i := 1162) (by decide +kernel)⟩
theorem lw_p46 : lw_okq (⟨"TrackNightsModel", "knownBy", "(I)I"⟩, 12) := ⟨⟨by decide +kernel, by decide +kernel⟩, List.mem_of_getElem? (i := 913) (by decide +kernel), List.mem_of_getElem? (i := 1165) (by decide +kernel), List.mem_of_getElem? (i := 1166) (by decide +kernel)⟩
theorem lw_p47 : lw_okq (⟨"TrackNightsModel", "knownOf", "(I)[I"⟩, 12) := ⟨⟨by decide +kernel, by decide +kernel⟩, List.mem_of_getElem? (i := 913) (by decide +kernel), List.mem_of_getElem? (i := 1169) (by decide +kernel), List.mem_of_getElem? (i := 1170) (by decide +kernel)⟩
def lw_privs_3 : List (MethodName × Nat) := [(⟨"TrackNights", "isTaken", "(I)Z"⟩, 13), (⟨"TrackNights", "signBeside", "(I)I"⟩, 13), (⟨"TrackNightsModel", "refuse", "(I)I"⟩, 12), (⟨"TrackNightsModel", "pass", "(II)I"⟩, 12), (⟨"TrackNightsModel", "give", "([II)I"⟩, 12), (⟨"TrackNightsModel", "lives", "()[I"⟩, 12), (⟨"TrackNightsModel", "isMachine", "(I)Z"⟩, 12), (⟨"TrackNightsModel", "isFree", "(IIII)Z"⟩, 12), (⟨"TrackNightsModel", "isNight", "(I)Z"⟩, 12), (⟨"TrackNightsModel", "has", "([II)Z"⟩, 12), (⟨"TrackNightsModel", "hours", "(II)I"⟩, 12), (⟨"TrackNightsModel", "isTaken", "(I)Z"⟩, 12), (⟨"TrackNightsModel", "ofSectionNow", "(II)I"⟩, 12), (⟨"TrackNightsModel", "knownNow", "(II)I"⟩, 12), (⟨"TrackNightsModel", "knownBy", "(I)I"⟩, 12), (⟨"TrackNightsModel", "knownOf", "(I)[I"⟩, 12)]
theorem lw_r3 : ∀ q ∈ lw_privs_3, lw_okq q := List.forall_mem_cons.mpr ⟨lw_p32, List.forall_mem_cons.mpr ⟨lw_p33, List.forall_mem_cons.mpr ⟨lw_p34, List.forall_mem_cons.mpr ⟨lw_p35, List.forall_mem_cons.mpr ⟨lw_p36, List.forall_mem_cons.mpr ⟨lw_p37, List.forall_mem_cons.mpr ⟨lw_p38, List.forall_mem_cons.mpr ⟨lw_p39, List.forall_mem_cons.mpr ⟨lw_p40, List.forall_mem_cons.mpr ⟨lw_p41, List.forall_mem_cons.mpr ⟨lw_p42, List.forall_mem_cons.mpr ⟨lw_p43, List.forall_mem_cons.mpr ⟨lw_p44, List.forall_mem_cons.mpr ⟨lw_p45, List.forall_mem_cons.mpr ⟨lw_p46, List.forall_mem_cons.mpr ⟨lw_p47, fun _ h => absurd h List.not_mem_nil⟩⟩⟩⟩⟩⟩⟩⟩⟩⟩⟩⟩⟩⟩⟩⟩
theorem lw_p48 : lw_okq (⟨"TrackNightsModel", "whyNow", "(IZ)I"⟩, 12) := ⟨⟨by decide +kernel, by decide +kernel⟩, List.mem_of_getElem? (i := 913) (by decide +kernel), List.mem_of_getElem? (i := 1178) (by decide +kernel), List.mem_of_getElem? (i := 1179) (by decide +kernel)⟩
theorem lw_p49 : lw_okq (⟨"TrackNightsModel", "ofNightNow", "(II)I"⟩, 12) := ⟨⟨by decide +kernel, by decide +kernel⟩, List.mem_of_getElem? (i := 913) (by decide +kernel), List.mem_of_getElem? (i := 1193) (by decide +kernel), List.mem_of_getElem? (i := 1194) (by decide +kernel)⟩
theorem lw_p50 : lw_okq (⟨"TrackNightsModel", "manyNow", "(I)I"⟩, 12) := ⟨⟨by decide +kernel, by decide +kernel⟩, List.mem_of_getElem? (i := 913) (by decide +kernel), List.mem_of_getElem? (i := 1201) (by decide +kernel), List.mem_of_getElem? (i := 1202) (by decide +kernel)⟩
theorem lw_p51 : lw_okq (⟨"TrackNightsModel", "seeNow", "(I)I"⟩, 12) := ⟨⟨by decide +kernel, by decide +kernel⟩, List.mem_of_getElem? (i := 913) (by decide +kernel), List.mem_of_getElem? (i := 1214) (by decide +kernel), List.mem_of_getElem? (i := 1215) (by decide +kernel)⟩
theorem lw_p52 : lw_okq (⟨"TrackNightsModel", "riskNow", "(II)I"⟩, 12) := ⟨⟨by decide +kernel, by decide +kernel⟩, List.mem_of_getElem? (i := 913) (by decide +kernel), List.mem_of_getElem? (i := 1222) (by decide +kernel), List.mem_of_getElem? (i := 1223) (by decide +kernel)⟩
theorem lw_p53 : lw_okq (⟨"TrackNightsModel", "bestNow", "(III)I"⟩, 12) := ⟨⟨by decide +kernel, by decide +kernel⟩, List.mem_of_getElem? (i := 913) (by decide +kernel), List.mem_of_getElem? (i := 1236) (by decide +kernel), List.mem_of_getElem? (i := 1237) (by decide +kernel)⟩
theorem lw_p54 : lw_okq (⟨"TrackNightsModel", "costOf", "(IIII)I"⟩, 12) := ⟨⟨by decide +kernel, by decide +kernel⟩, List.mem_of_getElem? (i := 913) (by decide +kernel), List.mem_of_getElem? (i := 1240) (by decide +kernel), List.mem_of_getElem? (i := 1241) (by decide +kernel)⟩
theorem lw_p55 : lw_okq (⟨"TrackNightsModel", "freeNow", "(III)I"⟩, 12) := ⟨⟨by decide +kernel, by decide +kernel⟩, List.mem_of_getElem? (i := 913) (by decide +kernel), List.mem_of_getElem? (i := 1248) (by decide +kernel), List.mem_of_getElem? (i := 1249) (by decide +kernel)⟩
theorem lw_p56 : lw_okq (⟨"TrackNightsModel", "add", "(I)V"⟩, 12) := ⟨⟨by decide +kernel, by decide +kernel⟩, List.mem_of_getElem? (i := 913) (by decide +kernel), List.mem_of_getElem? (i := 1261) (by decide +kernel), List.mem_of_getElem? (i := 1262) (by decide +kernel)⟩
def lw_privs_4 : List (MethodName × Nat) := [(⟨"TrackNightsModel", "whyNow", "(IZ)I"⟩, 12), (⟨"TrackNightsModel", "ofNightNow", "(II)I"⟩, 12), (⟨"TrackNightsModel", "manyNow", "(I)I"⟩, 12), (⟨"TrackNightsModel", "seeNow", "(I)I"⟩, 12), (⟨"TrackNightsModel", "riskNow", "(II)I"⟩, 12), (⟨"TrackNightsModel", "bestNow", "(III)I"⟩, 12), (⟨"TrackNightsModel", "costOf", "(IIII)I"⟩, 12), (⟨"TrackNightsModel", "freeNow", "(III)I"⟩, 12), (⟨"TrackNightsModel", "add", "(I)V"⟩, 12)]
theorem lw_r4 : ∀ q ∈ lw_privs_4, lw_okq q := List.forall_mem_cons.mpr ⟨lw_p48, List.forall_mem_cons.mpr ⟨lw_p49, List.forall_mem_cons.mpr ⟨lw_p50, List.forall_mem_cons.mpr ⟨lw_p51, List.forall_mem_cons.mpr ⟨lw_p52, List.forall_mem_cons.mpr ⟨lw_p53, List.forall_mem_cons.mpr ⟨lw_p54, List.forall_mem_cons.mpr ⟨lw_p55, List.forall_mem_cons.mpr ⟨lw_p56, fun _ h => absurd h List.not_mem_nil⟩⟩⟩⟩⟩⟩⟩⟩⟩
def lw_privs : List (MethodName × Nat) := lw_privs_1 ++ (lw_privs_2 ++ (lw_privs_3 ++ (lw_privs_4)))
def lw_tbl : List Cond := k2_sels lw_privs ++ tables_1
theorem lw_privs_ok : ∀ q ∈ lw_privs, lw_okq q := by
  show ∀ q ∈ lw_privs_1 ++ (lw_privs_2 ++ (lw_privs_3 ++ (lw_privs_4))), lw_okq q
  exact List.forall_mem_append.mpr ⟨lw_r1, List.forall_mem_append.mpr ⟨lw_r2, List.forall_mem_append.mpr ⟨lw_r3, lw_r4⟩⟩⟩
/-- the streams that the claim lets the run draw from -/
abbrev lw_cs : List Choice := [Jvm.Choice.named "NaN.bits"]
theorem lw_bits : nanBits ∈ lw_cs := by first | decide | exact List.mem_cons_self | simp [lw_cs, nanBits]
/-- an array class over arrays is known -/
def va_AOA (ty : FieldType) (U : State) : Prop := (Cond.arrayOver (.array ty)).before #[] U = true
theorem va_AOA.use {ty : FieldType} {A : Array Value} {U : State} (h : va_AOA ty U) : (Cond.arrayOver (.array ty)).before A U = true := h
end
section
/-! ===== BEGIN words of one list among another's, by their places ===== -/
theorem goodIn_r {big : List Cond} (ws : List Cond) (ps : List Nat) (hp : ws = ps.filterMap (fun i => big[i]?)) (h : ws.all goodWord = true) : GoodIn big ws := by
  intro w hw
  have h1 := List.all_eq_true.mp h w hw
  rw [hp] at hw
  obtain ⟨i, -, hi⟩ := List.mem_filterMap.mp hw
  have hm : w ∈ big := by first | exact List.mem_of_getElem? hi | exact List.getElem?_mem hi
  exact ⟨hm, good_of_word h1⟩
theorem goodIn_app {big a b : List Cond} (ha : GoodIn big a) (hb : GoodIn big b) : GoodIn big (a ++ b) := fun w h => (List.mem_append.mp h).elim (ha w) (hb w)
theorem goodIn_ca {big a b : List Cond} {c : Cond} (ha : GoodIn big (c :: a)) (hb : GoodIn big b) : GoodIn big (c :: (a ++ b)) := fun w h => (List.mem_cons.mp h).elim (fun e => ha w (List.mem_cons.mpr (Or.inl e))) (fun h => (List.mem_append.mp h).elim (fun h => ha w (List.mem_cons.mpr (Or.inr h))) (hb w))
theorem goodIn_sub {big ws : List Cond} (hm : ∀ w ∈ ws, w ∈ big) (h : ws.all goodWord = true) : GoodIn big ws := fun w hw => ⟨hm w hw, good_of_word (List.all_eq_true.mp h w hw)⟩
/-! ===== END ===== -/

/-! ===== BEGIN new T[n][m]: the outer array a place, the inner ones among the pooled ===== -/
/-- f, but v at every address of l -/
def vr_up {α : Type} (f : Nat → α) (l : List Nat) (v : α) : Nat → α := fun a => if a ∈ l then v else f a
theorem vr_up_in {α : Type} {f : Nat → α} {l : List Nat} {v : α} {a : Nat} (h : a ∈ l) : vr_up f l v a = v := if_pos h
theorem vr_up_ne {α : Type} {f : Nat → α} {l : List Nat} {v : α} {a : Nat} (h : a ∉ l) : vr_up f l v a = f a := if_neg h
theorem vr_rows {L l : List Nat} {f : Nat → va_E} {e : va_E} (h : ∀ a, a ∈ l → a ∉ L) : va_pl L f ++ l.map (fun a => (a, e)) = va_pl (L ++ l) (vr_up f l e) := by
  unfold va_pl
  rw [List.map_append]
  congr 1
  · apply List.map_congr_left
    intro a ha
    rw [vr_up_ne (fun q => h a q ha)]
  · apply List.map_congr_left
    intro a ha
    rw [vr_up_in ha]
theorem vr_lay {X rows : va_W} {x : Nat × va_E} {pl : va_W} {D : va_G} {cl : List vw_C} {H : Heap} (hP : va_P D cl (((X ++ pl) ++ [x]) ++ rows) H) : va_P D cl ((X ++ [x]) ++ (pl ++ rows)) H := by
  rw [List.append_assoc (X ++ pl)] at hP
  have h := va_P.swap hP
  rw [← List.append_assoc X] at h
  have h2 := va_P.swap h
  rw [List.append_assoc (X ++ [x])] at h2
  exact h2
theorem vr_layD {X rows : va_W} {x : Nat × va_E} {pl : va_W} {A : Nat → Prop} (hD : va_D A (((X ++ pl) ++ [x]) ++ rows)) : va_D A ((X ++ [x]) ++ (pl ++ rows)) := by
  rw [List.append_assoc (X ++ pl)] at hD
  have h := va_D.swap hD
  rw [← List.append_assoc X] at h
  have h2 := va_D.swap h
  rw [List.append_assoc (X ++ [x])] at h2
  exact h2
theorem vr_outer (c : ClassId) (N h0 : Nat) : ∀ i : Nat, Jvm.Free.Multi.outerC c N h0 i = arrV c N (fun j => va_rf (if j < i then some (h0 + 1 + j) else none))
  | 0 => by
    show ({ cls := c, slots := Array.replicate N .null, vm := .none } : Cell) = _
    rw [arrV_new]
    refine congrArg (arrV c N) (funext fun j => ?_)
    simp [va_rf]
  | i + 1 => by
    show (Jvm.Free.Multi.outerC c N h0 i).setSlot i (.ref (h0 + 1 + i)) = _
    rw [vr_outer c N h0 i, arrV_store]
    refine congrArg (arrV c N) (funext fun j => ?_)
    by_cases e : j = i
    · subst e
      simp [updV, va_rf]
    · by_cases h : j < i
      · simp [updV, e, h, Nat.lt_succ_of_lt h]
      · simp [updV, e, h, show ¬ j < i + 1 by omega]
section VGM
variable {p : Program} {l : Launch} {e : Env} {R : Room} {s : State} {m : MethodId} {args : Array Value} {below : List Frame} {meth : Method} {c : Code} {H : Heap} {locs : List Loc} {cells slots : Nat} {Q : State → Prop}
variable {cc : ByteArray} {pc : Nat} {ls : Array Slot} {rest : List Value} {D : va_G} {cl : List vw_C} {A : Nat → Prop} {a : Nat} {tys : List (ClassId × FieldType)} {ws : va_W} {H0 : Heap}
theorem va_mna {X : va_W} {L : List Nat} {f : Nat → va_E} {cc : ByteArray} (hexec : p.tables.exec = Jvm.exec) (hb : c.code = cc) {own : String} {index : Nat} {ty : FieldType} {cy : ClassId} (hown : s.vm.findClass own = some m.cls) (hclink : (Cond.classLink own index ("[" ++ (FieldType.array ty).toString)).before args s = true) (hover : va_AOA ty s) (harr : (Cond.arrayClass ty).before args s = true) (hcy : s.vm.findClass (FieldType.array ty).toString = some cy)
    (hK : va_K D cl tys s) (hP : va_P D cl (X ++ va_pl L f) H) (hD : va_D A (X ++ va_pl L f)) (hS : va_S A H0 H locs) (hA : ∀ q, H0.size ≤ q → A q) {n k : Int32} {N' K' : Nat} {z : vp_A} (hn : ¬ n < 0) (hk : ¬ k < 0) (hN : n.toNatClampNeg = N') (hM : k.toNatClampNeg = K')
    (hb1 : N' * 4 ≤ 536870912) (hb2 : K' * componentBytes ty ≤ 536870912) (hb3 : K' ≤ 536870912) (hdf : fits ty (defaultValue ty) = true) (hdd : (defaultValue ty).isDefault = true) (hcells : cells + (1 + N') ≤ R.cells) (hslots : slots + (N' + N' * K') ≤ R.slots) (hz : ∀ c : ClassId, Jvm.Free.Multi.innerC c K' (defaultValue ty) = vp_cell c z) (hdg : decode cc pc = .ok (.multianewarray index 2, 4))
    (kk : ∀ (q : Nat) (r : Nat → Nat) (cA : ClassId) (H1 : Heap), (∀ i j : Nat, i < N' → j < N' → r i = r j → i = j) → (∀ i : Nat, i < N' → r i ∉ L) → va_K D cl (tys ++ [(cA, .array ty)]) s →
      va_P D cl ((X ++ [(q, .inl (cA, N', .inr (.inr (.inr (.inr (fun i => if i < N' then some (r i) else none))))))]) ++ va_pl (L ++ (List.range N').map r) (vr_up f ((List.range N').map r) (.inl (cy, z)))) H1 → va_D A ((X ++ [(q, .inl (cA, N', .inr (.inr (.inr (.inr (fun i => if i < N' then some (r i) else none))))))]) ++ va_pl (L ++ (List.range N').map r) (vr_up f ((List.range N').map r) (.inl (cy, z)))) → va_S A H0 H1 locs →
      W p l e R s m args below meth c H1 locs (cells + 1 + N') (slots + N' + N' * K') Q (F0 m (pc + 4) ls (.ref q :: rest))) : W p l e R s m args below meth c H locs cells slots Q (F0 m pc ls (.int k :: .int n :: rest)) := by
  subst hN
  subst hM
  intro T hT Xs
  obtain ⟨vm₁, cA, comp, -, fA, fC, hO, -, X', step⟩ := Xs.multianewarray2F hexec hown hclink (va_AOA.use hover) harr (g := F0 m pc ls (.int k :: .int n :: rest)) rfl (by rw [hb]; exact hdg) rfl hn hk hb1 hb2 hb3 hdf hdd hcells hslots
  have ec : some cy = some comp := hcy.symm.trans fC
  cases ec
  generalize hF : Jvm.Free.Multi.fill (T.setVm vm₁) cA cy n.toNatClampNeg k.toNatClampNeg (defaultValue ty) n.toNatClampNeg = F at X' step
  have hTh : (T.setVm vm₁).heap = H := hT
  obtain ⟨f1, f2, -, -⟩ := Jvm.Free.Multi.fill_facts (T.setVm vm₁) cA cy n.toNatClampNeg k.toNatClampNeg (defaultValue ty) n.toNatClampNeg
  rw [hF, hTh] at f1 f2
  have hold : ∀ x : Nat, x < H.size → F.heap[x]? = H[x]? := fun x hx => by
    have := Jvm.Free.Multi.fill_old (T.setVm vm₁) cA cy n.toNatClampNeg k.toNatClampNeg (defaultValue ty) (a := x) (by rw [hTh]; exact hx) n.toNatClampNeg
    rw [hF, hTh] at this
    exact this
  have hrow : ∀ j : Nat, j < n.toNatClampNeg → F.heap[H.size + 1 + j]? = some (vp_cell cy z) := fun j hj => by
    have := Jvm.Free.Multi.fill_inner (T.setVm vm₁) cA cy n.toNatClampNeg k.toNatClampNeg (defaultValue ty) n.toNatClampNeg j hj
    rw [hF, hTh, hz] at this
    exact this
  have hout : Jvm.Free.Multi.outerC cA n.toNatClampNeg H.size n.toNatClampNeg = vp_cell cA (n.toNatClampNeg, .inr (.inr (.inr (.inr (fun i => if i < n.toNatClampNeg then some (H.size + 1 + i) else none))))) := by
    rw [vp_cell_q]
    exact vr_outer cA n.toNatClampNeg H.size n.toNatClampNeg
  rw [hout] at f2
  have hlt : ∀ a, a ∈ L → a < H.size := fun a ha => by
    obtain ⟨k9, hk9⟩ := va_pl_get (X := X) (f := f) ha
    exact (hP k9 _ hk9).lt
  have hnl : ∀ i : Nat, i < n.toNatClampNeg → H.size + 1 + i ∉ L := fun i _ h => by
    have := hlt _ h
    omega
  have hnm : ∀ a, a ∈ (List.range n.toNatClampNeg).map (fun i => H.size + 1 + i) → a ∉ L := fun a ha h => by
    obtain ⟨i, -, rfl⟩ := List.mem_map.mp ha
    have := hlt _ h
    omega
  have hP0 : va_P D cl (X ++ va_pl L f) F.heap := hP.kept (fun k9 x hx => hold x.1 ((hP k9 x hx).lt))
  have hP1 : va_P D cl ((X ++ va_pl L f) ++ [(H.size, .inl (cA, n.toNatClampNeg, .inr (.inr (.inr (.inr (fun i => if i < n.toNatClampNeg then some (H.size + 1 + i) else none))))))]) F.heap := hP0.app (fun k9 x hx => by
    have h0 : k9 < 1 := (List.getElem?_eq_some_iff.mp hx).1
    rw [show k9 = 0 by omega] at hx
    cases hx
    exact f2)
  have hP2 : va_P D cl (((X ++ va_pl L f) ++ [(H.size, .inl (cA, n.toNatClampNeg, .inr (.inr (.inr (.inr (fun i => if i < n.toNatClampNeg then some (H.size + 1 + i) else none))))))]) ++ ((List.range n.toNatClampNeg).map (fun i => H.size + 1 + i)).map (fun a => (a, .inl (cy, z)))) F.heap := hP1.app (fun k9 x hx => by
    obtain ⟨a, ha, rfl⟩ := List.mem_map.mp (List.mem_of_getElem? hx)
    obtain ⟨i, hi, rfl⟩ := List.mem_map.mp ha
    exact hrow i (List.mem_range.mp hi))
  have hD2 : va_D A (((X ++ va_pl L f) ++ [(H.size, .inl (cA, n.toNatClampNeg, .inr (.inr (.inr (.inr (fun i => if i < n.toNatClampNeg then some (H.size + 1 + i) else none))))))]) ++ ((List.range n.toNatClampNeg).map (fun i => H.size + 1 + i)).map (fun a => (a, .inl (cy, z)))) := by
    have hD1 := hD.push (e := .inl (cA, n.toNatClampNeg, .inr (.inr (.inr (.inr (fun i => if i < n.toNatClampNeg then some (H.size + 1 + i) else none)))))) hP rfl (hA _ hS.1)
    generalize hW1 : (X ++ va_pl L f) ++ [(H.size, .inl (cA, n.toNatClampNeg, .inr (.inr (.inr (.inr (fun i => if i < n.toNatClampNeg then some (H.size + 1 + i) else none))))))] = W1 at hD1 hP1 ⊢
    have hle : ∀ (k9 : Nat) (x : Nat × va_E), W1[k9]? = some x → x.1 ≤ H.size := fun k9 x hx => by
      rw [← hW1] at hx
      by_cases hl : k9 < (X ++ va_pl L f).length
      · rw [List.getElem?_append_left hl] at hx
        exact Nat.le_of_lt ((hP k9 x hx).lt)
      · rw [List.getElem?_append_right (by omega)] at hx
        have h0 : k9 - (X ++ va_pl L f).length < 1 := (List.getElem?_eq_some_iff.mp hx).1
        rw [show k9 - (X ++ va_pl L f).length = 0 by omega] at hx
        cases hx
        exact Nat.le_refl _
    have hr : ∀ (k9 : Nat) (x : Nat × va_E), (((List.range n.toNatClampNeg).map (fun i => H.size + 1 + i)).map (fun a => ((a, .inl (cy, z)) : Nat × va_E)))[k9]? = some x → x.1 = H.size + 1 + k9 := fun k9 x hx => by
      rw [List.getElem?_map, List.getElem?_map] at hx
      by_cases h9 : k9 < n.toNatClampNeg
      · rw [List.getElem?_range h9] at hx
        cases hx
        rfl
      · have hn0 : (List.range n.toNatClampNeg)[k9]? = none := List.getElem?_eq_none (by rw [List.length_range]; omega)
        rw [hn0] at hx
        cases hx
    refine ⟨fun i j x y hi hj hxy => ?_, fun k9 x hx => ?_⟩
    · by_cases h1 : i < W1.length <;> by_cases h2 : j < W1.length
      · rw [List.getElem?_append_left h1] at hi
        rw [List.getElem?_append_left h2] at hj
        exact hD1.1 i j x y hi hj hxy
      · rw [List.getElem?_append_left h1] at hi
        rw [List.getElem?_append_right (by omega)] at hj
        have := hle _ _ hi
        have := hr _ _ hj
        omega
      · rw [List.getElem?_append_right (by omega)] at hi
        rw [List.getElem?_append_left h2] at hj
        have := hle _ _ hj
        have := hr _ _ hi
        omega
      · rw [List.getElem?_append_right (by omega)] at hi hj
        have := hr _ _ hi
        have := hr _ _ hj
        omega
    · by_cases h1 : k9 < W1.length
      · rw [List.getElem?_append_left h1] at hx
        exact hD1.2 k9 x hx
      · rw [List.getElem?_append_right (by omega)] at hx
        have := hr _ _ hx
        exact hA _ (by have := hS.1; omega)
  have hAr : ArrOfT s cA (.array ty) := fun N9 z9 => by
    obtain ⟨-, k9, hk9, cm9, hkk9⟩ := (hO 0 0 0).1
    exact ⟨(fun q hq => by cases hq), k9, hk9, cm9, hkk9⟩
  have hK2 : va_K D cl (tys ++ [(cA, .array ty)]) s := ⟨hK.1, fun k9 x hx => by
    by_cases hl : k9 < tys.length
    · rw [List.getElem?_append_left hl] at hx
      exact hK.2 k9 x hx
    · rw [List.getElem?_append_right (by omega)] at hx
      have h0 : k9 - tys.length < 1 := (List.getElem?_eq_some_iff.mp hx).1
      rw [show k9 - tys.length = 0 by omega] at hx
      cases hx
      exact ⟨hAr, fA⟩⟩
  obtain ⟨t, a1, b1⟩ := kk H.size (fun i => H.size + 1 + i) cA F.heap (fun i j _ _ h => by have h9 : H.size + 1 + i = H.size + 1 + j := h; omega) hnl hK2 (by rw [← vr_rows hnm]; exact vr_lay hP2) (by rw [← vr_rows hnm]; exact vr_layD hD2) ⟨by rw [f1]; have := hS.1; omega, fun x h1 h2 => (hold x (Nat.lt_of_lt_of_le h1 hS.1)).trans (hS.2.1 x h1 h2), hS.2.2⟩ F rfl X'
  refine ⟨t, step t ?_, b1⟩
  have e : T.heap.size = H.size := by rw [hT]
  rw [e]
  exact a1
end VGM
/-! ===== END ===== -/

/-! ===== BEGIN exceptions that leave a method, and their catching by the caller (launches without stack traces) ===== -/
section VXA
/-! The laws vx_back, vx_callV, vx_callS, vx_callSW, vx_throw0, vx_throwS follow proofs of the library, with one case more: JvmDerived/Free/Laws.lean (Back.of_free), Shelf42/LK1.lean (callV, callS), Shelf/KitTraced.lean (throwNew0V, throwNewS). -/
/-- where a method has thrown q: the class by its name, the cell, what was written, the world -/
def vx_T (XC : String → State → State → Prop) (st : State) (q : Addr) (t : State) (mc ms : Nat) (free : Addr → Prop) : Prop :=
  ∃ (E : String) (ce : Cell) (L : List Loc), XC E st t ∧ t.heap[q]? = some ce ∧ ce.vm = .none ∧ st.vm.findClass E = some ce.cls ∧ st.WarmedH t.vm ∧ st.sameButNew ({ t with vm := st.vm } : State) L mc ms ∧ ∀ z ∈ L, free z.base
def vx_Q (Qc : Array Value → State → Outcome → State → Prop) (XC : String → State → State → Prop) (mc ms : Nat) (free : Addr → Prop) : Array Value → State → Outcome → State → Prop := fun a st o t =>
  (Qc a st o t ∧ ∃ L, FrameEnd st o t L mc ms ∧ ∀ q ∈ L, free q.base) ∨ ∃ q, o = .threw q ∧ vx_T XC st q t mc ms free
/-- a callee that returns or throws -/
def vx_Met (l : Launch) (y : MethodName) (ws : List Cond) (rm : Room) (Pc : Array Value → State → Prop) (Qc : Array Value → State → Outcome → State → Prop) (XC : String → State → State → Prop) (mc ms : Nat) (free : Addr → Prop) : Prop :=
  MetFree l y (headSpec ws rm) Pc (fun _ _ _ _ _ => True) (vx_Q Qc XC mc ms free)
def vx_Post (XC : String → State → State → Prop) (mc ms : Nat) (free : Addr → Prop) : Pt → Array Value → Addr → Pt → Prop := fun A a q B =>
  ∃ (g : JFrame) (mk : MethodId) (t : State) (L : List Loc) (E : String) (ce : Cell), B.U.heap = t.heap ∧ B.U.vm = t.vm ∧ XC E (A.U.calling g mk a) t ∧ t.heap[q]? = some ce ∧ ce.vm = .none ∧ A.U.vm.findClass E = some ce.cls ∧ B.locs = A.locs ++ L ∧ (∀ z ∈ L, free z.base) ∧ B.cells = A.cells + mc ∧ B.slots = A.slots + ms
def vx_Back (l : Launch) (R : Room) (p : Program) (e : Env) (below : List Frame) (s : State) (sargs : Array Value) (y : MethodName) (len W9 : Nat)
    (Pre : Pt → Array Value → Prop) (Post : Pt → Array Value → Option Value → Pt → Prop) (PostX : Pt → Array Value → Addr → Pt → Prop) : Prop :=
  ∀ (m : MethodId) (meth : Method) (c : Code) (A : Pt) (g : JFrame) (ig : Instr) (mk : MethodId) (a : Array Value),
    Stand p l e R s m sargs below meth c A.U A.locs A.cells A.slots → g.method = m → g.locals.size = c.maxLocals → decode c.code g.pc = .ok (ig, len) →
    2 * g.monitorRoom + (g.stack.map fun v => v.category).sum ≤ W9 → A.U.methodNamed? y = some mk → Pre A a →
    (∃ (v : Option Value) (B : Pt), Stand p l e R s m sargs below meth c B.U B.locs B.cells B.slots ∧ Post A a v B ∧
      Steps p.tables e below (doInvoke e (A.U.setTop g) [] mk a).1 (B.U.setTop { g with pc := g.pc + len, stack := v.toList ++ g.stack })) ∨
    (∃ (q : Addr) (B : Pt), Stand p l e R s m sargs below meth c B.U B.locs B.cells B.slots ∧ PostX A a q B ∧
      Steps p.tables e below (doInvoke e (A.U.setTop g) [] mk a).1 ((B.U.setTop g).pushFrame (.throwing q)))
section Payer
variable {l : Launch} {R : Room} {p : Program} {e : Env} {below : List Frame} {s : State} {sargs : Array Value} {y : MethodName} {len W9 : Nat}
theorem vx_back {ws : List Cond} {rm : Room} {Pc : Array Value → State → Prop} {Qc : Array Value → State → Outcome → State → Prop} {XC : String → State → State → Prop} {mc ms : Nat} {free : Addr → Prop} {bytes : ByteArray} {maxL : Nat} {ret : Option FieldType}
    (hM : vx_Met l y ws rm Pc Qc XC mc ms free) (hblind : FrameBlind Pc) (hrc : rm.cells = mc) (hrs : rm.slots = ms)
    (hframes : rm.frames + 1 ≤ R.frames) (hlocals : W9 + (maxL + 11) + rm.locals ≤ R.locals)
    (hws : ∀ w ∈ ws, ∀ a' U, s.WarmedH U.vm → w.before a' U = true) (hcode : Cond.code y bytes maxL ret ∈ ws) (hinit : ∀ a' U, s.WarmedH U.vm → (Cond.initialized y.cls).before a' U = true) :
    vx_Back l R p e below s sargs y len W9 (PreOf R mc ms Pc) (PostOf Qc mc ms free) (vx_Post XC mc ms free) := by
  intro m meth c A g ig mk a X hg hsize hdg hW hn hp
  have h1 : (headSpec ws rm).pre.before a A.U = true := atoms_intro fun w hw => hws w hw _ _ X.warmed
  have h2 : (Cond.code y bytes maxL ret).before a A.U = true := hws _ hcode _ _ X.warmed
  have h3 : (Cond.initialized y.cls).before a A.U = true := hinit _ _ X.warmed
  have h4 : A.cells + (headSpec ws rm).room.cells ≤ R.cells := by rw [show (headSpec ws rm).room.cells = mc from hrc]; exact hp.1
  have h5 : A.slots + (headSpec ws rm).room.slots ≤ R.slots := by rw [show (headSpec ws rm).room.slots = ms from hrs]; exact hp.2.1
  have hPc : Pc a (A.U.calling g mk a) := hblind _ _ _ _ hp.2.2
  obtain ⟨U, Ls, c0, s0⟩ := A
  dsimp only [Pt.U, Pt.locs, Pt.cells, Pt.slots] at h1 h2 h3 h4 h5 X hn hPc ⊢
  obtain ⟨methY, cY, hmY, hcY, -, hlY, -, -, -, -⟩ := Cond.code_spec hn h2
  obtain ⟨kY, hkY, -⟩ := className_of_methodNamed hn
  have hinitY : kY.init = .initialized := Cond.initialized_spec (findClass_of_methodNamed hn) hkY h3
  have h : At U g.method c below := by rw [hg]; exact X.here
  have hlocals9 : W9 + (maxL + 11) + (headSpec ws rm).room.locals ≤ R.locals := hlocals
  have happ : (headSpec ws rm).appliesLoose y e.platform (U.calling g mk a) = true :=
    Spec.appliesLoose_calling (g := g) h hdg hn hkY hinitY
      (X.room_calling (g := g) (R' := (headSpec ws rm).room) hsize hmY hcY hframes (by rw [hlY]; omega) h4 h5) h1
  obtain ⟨mid, hmid⟩ := h.above
  have hfr : (U.setTop g).frames = (.java g :: mid) ++ below := by rw [State.frames_setTop' g h.top, hmid]; rfl
  obtain ⟨o, s₂, hsteps, -, hend, hq⟩ := Steps.callFree hM p X.admits X.cas X.clock (acts := []) hfr happ hPc trivial
  have hq' : vx_Q Qc XC mc ms free a (U.calling g mk a) o s₂ := hq
  rw [State.frames_setTop' g h.top] at hend
  obtain ⟨g₀, hg0⟩ := Option.isSome_iff_exists.mp h.top
  obtain ⟨r, hr⟩ := State.topJava?_eq_some.mp hg0
  have hr' : (({ U with heap := s₂.heap, slotsUsed := s₂.slotsUsed } : State).setVm s₂.vm).frames = .java g₀ :: r := hr
  rcases hq' with ⟨hqc, L, hfe, hL⟩ | ⟨q, rfl, E, ce, L, hx, hce, hcv, hcl, hW₂, hsm, hL⟩
  · obtain ⟨⟨v, rfl⟩, hW₂, e2, q2, q3, q4, q5, q6⟩ := id hfe
    have e3 : s₂ = ({ (U.calling g mk a).setFrames s₂.frames with heap := s₂.heap, slotsUsed := s₂.slotsUsed } : State).setVm s₂.vm := by
      have : s₂ = ({ s₂ with vm := (U.calling g mk a).vm } : State).setVm s₂.vm := rfl
      rw [e2] at this
      exact this
    obtain ⟨c₂, i₂, len₂, hc₂, hd₂, hf₂⟩ := hend
    have hW' : U.WarmedH s₂.vm := hW₂
    have hcc : c₂ = c := by
      have h1 : s₂.code? g.method = U.code? g.method := by
        rw [State.code?_eq, State.code?_eq, hW'.alike.method?]
      exact Option.some.inj (hc₂.symm.trans (h1.trans h.code))
    subst hcc
    have hlen : len₂ = len := by rw [hdg] at hd₂; cases hd₂; rfl
    subst hlen
    have hs₂ : s₂ = (({ U with heap := s₂.heap, slotsUsed := s₂.slotsUsed } : State).setVm s₂.vm).setTop { g with pc := g.pc + len₂, stack := v.toList ++ g.stack } := by
      refine e3.trans ?_
      rw [hf₂, State.calling_eq h.top, State.setFrames_setFrames, State.setTop_of_frames _ hr', hr]
      rfl
    have hsame : U.sameButNew ({ U with heap := s₂.heap, slotsUsed := s₂.slotsUsed } : State) L mc ms := by
      refine ⟨?_, q2, q3, q4, q5, q6⟩
      obtain ⟨t, ht, -⟩ := State.frames_cons hr
      show ({ U with heap := s₂.heap, slotsUsed := s₂.slotsUsed } : State) = { U.setFrames U.frames with heap := s₂.heap, slotsUsed := s₂.slotsUsed }
      rw [State.setFrames_self ht]
    subst hg
    refine Or.inl ⟨v, ⟨(({ U with heap := s₂.heap, slotsUsed := s₂.slotsUsed } : State).setVm s₂.vm), Ls ++ L, c0 + mc, s0 + ms⟩,
      ⟨X.admits, X.cas, X.clock, X.frames, X.room, X.hears, X.method, X.code, (X.here.setHeapUsed s₂.heap s₂.slotsUsed).setVm hW'.alike, X.tail, State.WarmedH.trans X.warmed hW', X.limits, X.bytes, X.same.trans (hsame.setVm s.vm)⟩,
      ⟨g, mk, s₂, L, rfl, rfl, hqc, rfl, hL, rfl, rfl⟩, ?_⟩
    show Steps p.tables e below _ ((({ U with heap := s₂.heap, slotsUsed := s₂.slotsUsed } : State).setVm s₂.vm).setTop { g with pc := g.pc + len₂, stack := v.toList ++ g.stack })
    rw [← hs₂]
    exact hsteps
  · obtain ⟨e2, q2, q3, q4, q5, q6⟩ := id hsm
    have e3 : s₂ = ({ (U.calling g mk a).setFrames s₂.frames with heap := s₂.heap, slotsUsed := s₂.slotsUsed } : State).setVm s₂.vm := by
      have : s₂ = ({ s₂ with vm := (U.calling g mk a).vm } : State).setVm s₂.vm := rfl
      rw [e2] at this
      exact this
    have hf₂ : s₂.frames = .throwing q :: .java g :: U.frames.tail := hend
    have hW' : U.WarmedH s₂.vm := hW₂
    have hs₂ : s₂ = ((({ U with heap := s₂.heap, slotsUsed := s₂.slotsUsed } : State).setVm s₂.vm).setTop g).pushFrame (.throwing q) := by
      refine e3.trans ?_
      rw [hf₂, State.calling_eq h.top, State.setFrames_setFrames, State.pushFrame, State.frames_setTop _ hr', State.setTop_of_frames _ hr', State.setFrames_setFrames, hr]
      rfl
    have hsame : U.sameButNew ({ U with heap := s₂.heap, slotsUsed := s₂.slotsUsed } : State) L mc ms := by
      refine ⟨?_, q2, q3, q4, q5, q6⟩
      obtain ⟨t, ht, -⟩ := State.frames_cons hr
      show ({ U with heap := s₂.heap, slotsUsed := s₂.slotsUsed } : State) = { U.setFrames U.frames with heap := s₂.heap, slotsUsed := s₂.slotsUsed }
      rw [State.setFrames_self ht]
    subst hg
    refine Or.inr ⟨q, ⟨(({ U with heap := s₂.heap, slotsUsed := s₂.slotsUsed } : State).setVm s₂.vm), Ls ++ L, c0 + mc, s0 + ms⟩,
      ⟨X.admits, X.cas, X.clock, X.frames, X.room, X.hears, X.method, X.code, (X.here.setHeapUsed s₂.heap s₂.slotsUsed).setVm hW'.alike, X.tail, State.WarmedH.trans X.warmed hW', X.limits, X.bytes, X.same.trans (hsame.setVm s.vm)⟩,
      ⟨g, mk, s₂, L, E, ce, rfl, rfl, hx, hce, hcv, hcl, rfl, hL, rfl, rfl⟩, ?_⟩
    show Steps p.tables e below _ (((({ U with heap := s₂.heap, slotsUsed := s₂.slotsUsed } : State).setVm s₂.vm).setTop g).pushFrame (.throwing q))
    rw [← hs₂]
    exact hsteps
end Payer
section Calls
variable {p : Program} {l : Launch} {e : Env} {R : Room} {s : State} {m : MethodId} {args : Array Value} {below : List Frame} {meth : Method} {c : Code} {T : State} {locs : List Loc} {cells slots : Nat}
theorem vx_callV (X : Stand p l e R s m args below meth c T locs cells slots) (hexec : p.tables.exec = Jvm.exec) {own C : String} {index : Nat} {y : MethodName} {bytes : ByteArray} {maxL : Nat} {ret : Option FieldType}
    (hown : s.vm.findClass own = some m.cls) (hlink : (Cond.methodLink own index y).before args s = true) (hinst : (Cond.instanceMethod y).before args s = true) (hsel : (Cond.selects C y y).before args s = true)
    (hcode : (Cond.code y bytes maxL ret).before args s = true) (hy : y.cls ≠ "java/lang/invoke/MethodHandle" ∧ y.cls ≠ "java/lang/invoke/VarHandle")
    {W9 : Nat} {Pre : Pt → Array Value → Prop} {Post : Pt → Array Value → Option Value → Pt → Prop} {PostX : Pt → Array Value → Addr → Pt → Prop} (hK : vx_Back l R p e below s args y 3 W9 Pre Post PostX)
    {b : Addr} {cellB : Cell} (hcell : T.heap[b]? = some cellB) (hobj : cellB.vm.isStatics = false) (hcls : s.vm.findClass C = some cellB.cls)
    {g : JFrame} (hg : g.method = m) (hsize : g.locals.size = c.maxLocals) {argsL rest : List Value} (hlen : ∀ sig, parseMethodDescriptor y.desc = some sig → argsL.length = sig.parameters.length)
    (hstack : g.stack = argsL.reverse ++ .ref b :: rest) (hW : 2 * g.monitorRoom + (rest.map fun v => v.category).sum ≤ W9) (hdg : decode c.code g.pc = .ok (.invokevirtual index, 3))
    (hpre : ∀ vm₁, s.WarmedH vm₁ → Pre ⟨T.setVm vm₁, locs, cells, slots⟩ (Value.ref b :: argsL).toArray) :
    (∃ (v : Option Value) (vm₁ : Vm) (B : Pt), s.WarmedH vm₁ ∧ Stand p l e R s m args below meth c B.U B.locs B.cells B.slots ∧ Post ⟨T.setVm vm₁, locs, cells, slots⟩ (Value.ref b :: argsL).toArray v B ∧
      ∀ target, Steps p.tables e below (B.U.setTop { g with pc := g.pc + 3, stack := v.toList ++ rest }) target → Steps p.tables e below (T.setTop g) target) ∨
    (∃ (q : Addr) (vm₁ : Vm) (B : Pt), s.WarmedH vm₁ ∧ Stand p l e R s m args below meth c B.U B.locs B.cells B.slots ∧ PostX ⟨T.setVm vm₁, locs, cells, slots⟩ (Value.ref b :: argsL).toArray q B ∧
      Steps p.tables e below (T.setTop g) ((B.U.setTop { g with stack := rest }).pushFrame (.throwing q))) := by
  obtain ⟨mk, methM, hnamed, hmethM, hstM, habM⟩ := Cond.instanceMethod_spec hinst
  obtain ⟨methM', cM, hmethM', -, -, -, -, -, -, hsigM⟩ := Cond.code_spec hnamed hcode
  cases hmethM.symm.trans hmethM'
  obtain ⟨c2, r2, m2, q1, q2, q3, q4, kP, hkP, hkPi⟩ := Cond.selects_spec hsel
  cases hcls.symm.trans q1
  cases (State.methodFound?_of_named hnamed hy).symm.trans q2
  cases hnamed.symm.trans q3
  have hselP : selectMethod e.platform s.vm cellB.cls mk = .method mk := by rw [Launch.admits_selectMethod X.admits]; exact q4
  obtain ⟨vm₁, X₁, hstep₁⟩ := X.invokevirtual hexec hown hlink hnamed hmethM hstM hkP hkPi hy (a := b) (cell := cellB) hcell
    (fun z h => by rw [h] at hobj; cases hobj) hselP hmethM habM hkP hkPi (g := g) hg (argsL := argsL) (rest := rest) (hlen _ hsigM) hstack hdg
  rcases hK m meth c ⟨T.setVm vm₁, locs, cells, slots⟩ { g with stack := rest } (.invokevirtual index) mk (Value.ref b :: argsL).toArray X₁ hg hsize hdg hW (X₁.named hnamed) (hpre vm₁ X₁.warmed) with ⟨v, B, X', hpost, hsteps⟩ | ⟨q, B, X', hpost, hsteps⟩
  · exact Or.inl ⟨v, vm₁, B, X₁.warmed, X', hpost, fun target h => hstep₁ _ fun acts => by rw [doInvoke_state]; exact hsteps.trans h⟩
  · exact Or.inr ⟨q, vm₁, B, X₁.warmed, X', hpost, hstep₁ _ fun acts => by rw [doInvoke_state]; exact hsteps⟩
theorem vx_callS (X : Stand p l e R s m args below meth c T locs cells slots) (hexec : p.tables.exec = Jvm.exec) {own : String} {index : Nat} {y : MethodName} {bytes : ByteArray} {maxL : Nat} {ret : Option FieldType}
    (hown : s.vm.findClass own = some m.cls) (hlink : (Cond.methodLink own index y).before args s = true) (hstat : (Cond.static y).before args s = true) (hinit : (Cond.initialized y.cls).before args s = true)
    (hcode : (Cond.code y bytes maxL ret).before args s = true) (hy : y.cls ≠ "java/lang/invoke/MethodHandle" ∧ y.cls ≠ "java/lang/invoke/VarHandle")
    {W9 : Nat} {Pre : Pt → Array Value → Prop} {Post : Pt → Array Value → Option Value → Pt → Prop} {PostX : Pt → Array Value → Addr → Pt → Prop} (hK : vx_Back l R p e below s args y 3 W9 Pre Post PostX)
    {g : JFrame} (hg : g.method = m) (hsize : g.locals.size = c.maxLocals) {argsL rest : List Value} (hlen : ∀ sig, parseMethodDescriptor y.desc = some sig → argsL.length = sig.parameters.length)
    (hstack : g.stack = argsL.reverse ++ rest) (hW : 2 * g.monitorRoom + (rest.map fun v => v.category).sum ≤ W9) (hdg : decode c.code g.pc = .ok (.invokestatic index, 3))
    (hpre : ∀ vm₁, s.WarmedH vm₁ → Pre ⟨T.setVm vm₁, locs, cells, slots⟩ argsL.toArray) :
    (∃ (v : Option Value) (vm₁ : Vm) (B : Pt), s.WarmedH vm₁ ∧ Stand p l e R s m args below meth c B.U B.locs B.cells B.slots ∧ Post ⟨T.setVm vm₁, locs, cells, slots⟩ argsL.toArray v B ∧
      ∀ target, Steps p.tables e below (B.U.setTop { g with pc := g.pc + 3, stack := v.toList ++ rest }) target → Steps p.tables e below (T.setTop g) target) ∨
    (∃ (q : Addr) (vm₁ : Vm) (B : Pt), s.WarmedH vm₁ ∧ Stand p l e R s m args below meth c B.U B.locs B.cells B.slots ∧ PostX ⟨T.setVm vm₁, locs, cells, slots⟩ argsL.toArray q B ∧
      Steps p.tables e below (T.setTop g) ((B.U.setTop { g with stack := rest }).pushFrame (.throwing q))) := by
  obtain ⟨mk, hnamed⟩ := Cond.code_named hcode
  obtain ⟨methM, cM, hmethM, -, -, -, -, -, -, hsigM⟩ := Cond.code_spec hnamed hcode
  have hstatic : methM.isStatic = true := Cond.static_spec hnamed hmethM hstat
  obtain ⟨kP, hkP, -⟩ := className_of_methodNamed hnamed
  have hinitP : kP.init = .initialized := Cond.initialized_spec (findClass_of_methodNamed hnamed) hkP hinit
  obtain ⟨vm₁, X₁, hstep₁⟩ := X.invokestatic hexec hown hlink hnamed hmethM hstatic hkP hinitP hy (g := g) hg (argsL := argsL) (rest := rest) (hlen _ hsigM) hstack hdg
  rcases hK m meth c ⟨T.setVm vm₁, locs, cells, slots⟩ { g with stack := rest } (.invokestatic index) mk argsL.toArray X₁ hg hsize hdg hW (X₁.named hnamed) (hpre vm₁ X₁.warmed) with ⟨v, B, X', hpost, hsteps⟩ | ⟨q, B, X', hpost, hsteps⟩
  · exact Or.inl ⟨v, vm₁, B, X₁.warmed, X', hpost, fun target h => hstep₁ _ fun acts => by rw [doInvoke_state]; exact hsteps.trans h⟩
  · exact Or.inr ⟨q, vm₁, B, X₁.warmed, X', hpost, hstep₁ _ fun acts => by rw [doInvoke_state]; exact hsteps⟩
end Calls
theorem vx_cls {s : State} {T : State} {vm₁ : Vm} {E : String} {k : ClassId} (hW : s.WarmedH vm₁) (h : (T.setVm vm₁).vm.findClass E = some k) : s.vm.findClass E = some k := by
  have h1 : vm₁.findClass E = some k := h
  rw [hW.alike.findClass] at h1
  exact h1
/-- the method's frame g, with q thrown over it -/
def vx_W (p : Program) (l : Launch) (e : Env) (R : Room) (s : State) (m : MethodId) (args : Array Value) (below : List Frame) (meth : Method) (c : Code) (H : Heap) (locs : List Loc) (cells slots : Nat) (Q : State → Prop) (g : JFrame) (q : Addr) : Prop :=
  ∀ T : State, T.heap = H → Stand p l e R s m args below meth c T locs cells slots → ∃ t, Steps p.tables e below ((T.setTop g).pushFrame (.throwing q)) t ∧ Q t
def vx_Run (p : Program) (l : Launch) (e : Env) (R : Room) (s : State) (m : MethodId) (args : Array Value) (below : List Frame) (meth : Method) (c : Code) (H : Heap) (locs : List Loc) (cells slots mc ms : Nat) (g : JFrame) (rest : List Value) (Qa : State → Outcome → State → Prop) (XC : String → State → State → Prop) (free : Addr → Prop) : Prop :=
  ∀ T : State, T.heap = H → Stand p l e R s m args below meth c T locs cells slots →
    (∃ (v : Option Value) (st₀ t T' : State) (L : List Loc), st₀.heap = H ∧ Stand p l e R s m args below meth c T' (locs ++ L) (cells + mc) (slots + ms) ∧ (∀ q ∈ L, free q.base) ∧ T'.heap = t.heap ∧ T'.vm = t.vm ∧ Qa st₀ (.returned v) t ∧
      Goes p e below T g T' { g with pc := g.pc + 3, stack := v.toList ++ rest }) ∨
    (∃ (q : Addr) (st₀ t T' : State) (L : List Loc) (E : String) (ce : Cell), st₀.heap = H ∧ Stand p l e R s m args below meth c T' (locs ++ L) (cells + mc) (slots + ms) ∧ (∀ z ∈ L, free z.base) ∧ T'.heap = t.heap ∧ T'.vm = t.vm ∧ XC E st₀ t ∧ t.heap[q]? = some ce ∧ ce.vm = .none ∧ s.vm.findClass E = some ce.cls ∧
      Steps p.tables e below (T.setTop g) ((T'.setTop { g with stack := rest }).pushFrame (.throwing q)))
def vx_X {S : Type} (px : S → Prop) (B : String → S → State → Prop) (A : Nat → Prop) : String → State → State → Prop := fun E st t => ∃ u : S, px u ∧ B E u t ∧ va_F A st t
section Runs
variable {p : Program} {l : Launch} {e : Env} {R : Room} {s : State} {m : MethodId} {args : Array Value} {below : List Frame} {meth : Method} {c : Code} {H : Heap} {locs : List Loc} {cells slots : Nat}
variable {y : MethodName} {bytes cc : ByteArray} {maxL nL mc ms n index : Nat} {ret : Option FieldType} {ws : List Cond} {rm : Room} {Pc : Array Value → State → Prop} {Qc : Array Value → State → Outcome → State → Prop} {XC : String → State → State → Prop} {free : Addr → Prop} {Ts : List Cond} {own C : String} {b : Addr} {As rest : List Value} {g : JFrame}
theorem vx_callBack (cb : CallB R s args own index y bytes maxL ret ws rm mc ms n) (hM : vx_Met l y ws rm Pc Qc XC mc ms free) (hbl : FrameBlind Pc) : vx_Back l R p e below s args y 3 8 (PreOf R mc ms Pc) (PostOf Qc mc ms free) (vx_Post XC mc ms free) := by
  obtain ⟨hrc, hrs, hfr, hlo, hws, hcw, -, hini, -⟩ := cb
  exact vx_back (bytes := bytes) (maxL := maxL) (ret := ret) hM hbl hrc hrs hfr hlo hws hcw (fun a' U hW => word_at hW (Or.inl (by first | rfl | simp [Cond.onTables, Cond.keeps, Cond.steady])) hini)
theorem vx_runV (S : CallFix p m c cc nL s args Ts own) (hM : vx_Met l y ws rm Pc Qc XC mc ms free) (cw : CallW R s args own C index y bytes maxL ret ws rm mc ms n) (hp : PreV s H C b Pc As)
    (hg : g.method = m) (hn : As.length = n) (hsize : g.locals.size = nL) (hstack : g.stack = As.reverse ++ .ref b :: rest) (hW : 2 * g.monitorRoom + (rest.map fun v => v.category).sum ≤ 8) (hdg : decode cc g.pc = .ok (.invokevirtual index, 3)) (hf : cells + mc ≤ R.cells ∧ slots + ms ≤ R.slots) :
    vx_Run p l e R s m args below meth c H locs cells slots mc ms g rest (Qc (Value.ref b :: As).toArray) XC free := by
  have hK : vx_Back l R p e below s args y 3 8 (PreOf R mc ms Pc) (PostOf Qc mc ms free) (vx_Post XC mc ms free) := vx_callBack cw.1 hM hp.1
  obtain ⟨⟨-, -, -, -, -, -, hcode, -, hy, hlen, hl⟩, hin, hse⟩ := cw
  obtain ⟨hx, hb, hml, ho, -⟩ := S
  obtain ⟨-, ⟨cellB, hcB, hoB, hclB⟩, hPc⟩ := hp
  intro T hT X
  rcases vx_callV X hx (C := C) (bytes := bytes) (maxL := maxL) (ret := ret) ho hl hin hse hcode hy hK (by rw [hT]; exact hcB) hoB hclB hg (hsize.trans hml.symm) (argsL := As) (rest := rest) (fun sig h => hn.trans (hlen sig h)) hstack hW (by rw [hb]; exact hdg)
    (fun vm₁ hW₁ => ⟨hf.1, hf.2, hPc (T.setVm vm₁) hT hW₁⟩) with ⟨v, vm₁, ⟨U', l2, c2, s2⟩, hW₁, X', ⟨g', mk, t, L, e1, e2, hq, h1, hL, h2, h3⟩, st⟩ | ⟨q, vm₁, ⟨U', l2, c2, s2⟩, hW₁, X', ⟨g', mk, t, L, E, ce, e1, e2, hq, hce, hcv, hcl, h1, hL, h2, h3⟩, st⟩
  · dsimp only [Pt.U, Pt.locs, Pt.cells, Pt.slots] at X' e1 e2 h1 h2 h3 st
    subst h1; subst h2; subst h3
    exact Or.inl ⟨v, (T.setVm vm₁).calling g' mk (Value.ref b :: As).toArray, t, U', L, hT, X', hL, e1, e2, hq, st⟩
  · dsimp only [Pt.U, Pt.locs, Pt.cells, Pt.slots] at X' e1 e2 h1 h2 h3 st hcl
    subst h1; subst h2; subst h3
    exact Or.inr ⟨q, (T.setVm vm₁).calling g' mk (Value.ref b :: As).toArray, t, U', L, E, ce, hT, X', hL, e1, e2, hq, hce, hcv, vx_cls hW₁ hcl, st⟩
theorem vx_runS (S : CallFix p m c cc nL s args Ts own) (hM : vx_Met l y ws rm Pc Qc XC mc ms free) (cw : CallB R s args own index y bytes maxL ret ws rm mc ms n ∧ (Cond.static y).before args s = true) (hp : PreS s H Pc As)
    (hg : g.method = m) (hn : As.length = n) (hsize : g.locals.size = nL) (hstack : g.stack = As.reverse ++ rest) (hW : 2 * g.monitorRoom + (rest.map fun v => v.category).sum ≤ 8) (hdg : decode cc g.pc = .ok (.invokestatic index, 3)) (hf : cells + mc ≤ R.cells ∧ slots + ms ≤ R.slots) :
    vx_Run p l e R s m args below meth c H locs cells slots mc ms g rest (Qc As.toArray) XC free := by
  have hK : vx_Back l R p e below s args y 3 8 (PreOf R mc ms Pc) (PostOf Qc mc ms free) (vx_Post XC mc ms free) := vx_callBack cw.1 hM hp.1
  obtain ⟨⟨-, -, -, -, -, -, hcode, hini, hy, hlen, hl⟩, hstt⟩ := cw
  obtain ⟨hx, hb, hml, ho, -⟩ := S
  intro T hT X
  rcases vx_callS X hx (bytes := bytes) (maxL := maxL) (ret := ret) ho hl hstt hini hcode hy hK hg (hsize.trans hml.symm) (argsL := As) (rest := rest) (fun sig h => hn.trans (hlen sig h)) hstack hW (by rw [hb]; exact hdg)
    (fun vm₁ hW₁ => ⟨hf.1, hf.2, hp.2 (T.setVm vm₁) hT hW₁⟩) with ⟨v, vm₁, ⟨U', l2, c2, s2⟩, hW₁, X', ⟨g', mk, t, L, e1, e2, hq, h1, hL, h2, h3⟩, st⟩ | ⟨q, vm₁, ⟨U', l2, c2, s2⟩, hW₁, X', ⟨g', mk, t, L, E, ce, e1, e2, hq, hce, hcv, hcl, h1, hL, h2, h3⟩, st⟩
  · dsimp only [Pt.U, Pt.locs, Pt.cells, Pt.slots] at X' e1 e2 h1 h2 h3 st
    subst h1; subst h2; subst h3
    exact Or.inl ⟨v, (T.setVm vm₁).calling g' mk As.toArray, t, U', L, hT, X', hL, e1, e2, hq, st⟩
  · dsimp only [Pt.U, Pt.locs, Pt.cells, Pt.slots] at X' e1 e2 h1 h2 h3 st hcl
    subst h1; subst h2; subst h3
    exact Or.inr ⟨q, (T.setVm vm₁).calling g' mk As.toArray, t, U', L, E, ce, hT, X', hL, e1, e2, hq, hce, hcv, vx_cls hW₁ hcl, st⟩
end Runs
section Rows
variable {p : Program} {l : Launch} {e : Env} {R : Room} {s : State} {m : MethodId} {args : Array Value} {below : List Frame} {meth : Method} {c : Code} {H : Heap} {locs : List Loc} {cells slots : Nat} {Q : State → Prop}
variable {mc ms : Nat} {free : Addr → Prop} {A0 A1 : Nat → Prop} {H0 : Heap} {a : Array Value} {pc : Nat} {ls : Array Slot} {st0 rest : List Value}
theorem vx_keep {st₀ t T' : State} {L : List Loc} (h0 : st₀.heap = H) (e1 : T'.heap = t.heap) (hS : va_S A0 H0 H locs) (hA : ∀ q, q < H.size → A1 q → A0 q) (hf : ∀ q, free q → A0 q) (hL : ∀ q ∈ L, free q.base) (hF : va_F A1 st₀ t) :
    H.size ≤ T'.heap.size ∧ (∀ q : Nat, q < H.size → ¬ A1 q → T'.heap[q]? = H[q]?) ∧ va_S A0 H0 T'.heap (locs ++ L) := by
  obtain ⟨hz, hk⟩ := hF
  rw [h0] at hz hk
  exact ⟨by rw [e1]; exact hz, fun q h1 h2 => by rw [e1]; exact hk q h1 h2,
    ⟨Nat.le_trans hS.1 (by rw [e1]; exact hz), fun q h1 h2 => by rw [e1, hk q (Nat.lt_of_lt_of_le h1 hS.1) (fun z => h2 (hA q (Nat.lt_of_lt_of_le h1 hS.1) z))]; exact hS.2.1 q h1 h2, fun q hq => by
      rcases List.mem_append.mp hq with h | h
      · exact hS.2.2 q h
      · exact hf _ (hL q h)⟩⟩
theorem vx_calli {S SX : Type} {post : Int32 → S → Prop} {px : SX → Prop} {B : S → State → Prop} {BX : String → SX → State → Prop} {AX : Nat → Prop} (hr : vx_Run p l e R s m args below meth c H locs cells slots mc ms (F0 m pc ls st0) rest (va_Qi post B A1 a) (vx_X px BX AX) free) (hS : va_S A0 H0 H locs) (hA : ∀ q, q < H.size → A1 q → A0 q) (hf : ∀ q, free q → A0 q) (hAX : ∀ q, q < H.size → AX q → A0 q)
    (kx : ∀ (E : String) (ce : Cell) (q9 : Addr) (u : SX) (t : State) (H1 : Heap) (locs1 : List Loc), t.heap = H1 → s.vm.Alike t.vm → px u → BX E u t → H.size ≤ H1.size → (∀ q : Nat, q < H.size → ¬ AX q → H1[q]? = H[q]?) → va_S A0 H0 H1 locs1 → H1[q9]? = some ce → ce.vm = .none → s.vm.findClass E = some ce.cls → vx_W p l e R s m args below meth c H1 locs1 (cells + mc) (slots + ms) Q (F0 m pc ls rest) q9)
    (kk : ∀ (r : Int32) (u : S) (t : State) (H1 : Heap) (locs1 : List Loc), t.heap = H1 → s.vm.Alike t.vm → post r u → B u t → H.size ≤ H1.size → (∀ q : Nat, q < H.size → ¬ A1 q → H1[q]? = H[q]?) → va_S A0 H0 H1 locs1 → W p l e R s m args below meth c H1 locs1 (cells + mc) (slots + ms) Q (F0 m (pc + 3) ls (.int r :: rest))) : W p l e R s m args below meth c H locs cells slots Q (F0 m pc ls st0) := by
  intro T hT X
  rcases hr T hT X with ⟨v, st₀, t, T', L, h0, X', hL, e1, e2, ⟨⟨r, u, hv, hp, hb⟩, hF⟩, st⟩ | ⟨q, st₀, t, T', L, E, ce, h0, X', hL, e1, e2, ⟨u, hp, hb, hF⟩, hce, hcv, hcl, st⟩
  · cases hv
    obtain ⟨k1, k2, k3⟩ := vx_keep h0 e1 hS hA hf hL hF
    obtain ⟨t2, a1, b1⟩ := kk r u t T'.heap (locs ++ L) e1.symm (by rw [← e2]; exact X'.warmed.alike) hp hb k1 k2 k3 T' rfl X'
    exact ⟨t2, st t2 a1, b1⟩
  · obtain ⟨k1, k2, k3⟩ := vx_keep h0 e1 hS hAX hf hL hF
    obtain ⟨t2, a1, b1⟩ := kx E ce q u t T'.heap (locs ++ L) e1.symm (by rw [← e2]; exact X'.warmed.alike) hp hb k1 k2 k3 (by rw [e1]; exact hce) hcv hcl T' rfl X'
    exact ⟨t2, st.trans a1, b1⟩
theorem vx_calll {S SX : Type} {post : Int64 → S → Prop} {px : SX → Prop} {B : S → State → Prop} {BX : String → SX → State → Prop} {AX : Nat → Prop} (hr : vx_Run p l e R s m args below meth c H locs cells slots mc ms (F0 m pc ls st0) rest (va_Ql post B A1 a) (vx_X px BX AX) free) (hS : va_S A0 H0 H locs) (hA : ∀ q, q < H.size → A1 q → A0 q) (hf : ∀ q, free q → A0 q) (hAX : ∀ q, q < H.size → AX q → A0 q)
    (kx : ∀ (E : String) (ce : Cell) (q9 : Addr) (u : SX) (t : State) (H1 : Heap) (locs1 : List Loc), t.heap = H1 → s.vm.Alike t.vm → px u → BX E u t → H.size ≤ H1.size → (∀ q : Nat, q < H.size → ¬ AX q → H1[q]? = H[q]?) → va_S A0 H0 H1 locs1 → H1[q9]? = some ce → ce.vm = .none → s.vm.findClass E = some ce.cls → vx_W p l e R s m args below meth c H1 locs1 (cells + mc) (slots + ms) Q (F0 m pc ls rest) q9)
    (kk : ∀ (r : Int64) (u : S) (t : State) (H1 : Heap) (locs1 : List Loc), t.heap = H1 → s.vm.Alike t.vm → post r u → B u t → H.size ≤ H1.size → (∀ q : Nat, q < H.size → ¬ A1 q → H1[q]? = H[q]?) → va_S A0 H0 H1 locs1 → W p l e R s m args below meth c H1 locs1 (cells + mc) (slots + ms) Q (F0 m (pc + 3) ls (.long r :: rest))) : W p l e R s m args below meth c H locs cells slots Q (F0 m pc ls st0) := by
  intro T hT X
  rcases hr T hT X with ⟨v, st₀, t, T', L, h0, X', hL, e1, e2, ⟨⟨r, u, hv, hp, hb⟩, hF⟩, st⟩ | ⟨q, st₀, t, T', L, E, ce, h0, X', hL, e1, e2, ⟨u, hp, hb, hF⟩, hce, hcv, hcl, st⟩
  · cases hv
    obtain ⟨k1, k2, k3⟩ := vx_keep h0 e1 hS hA hf hL hF
    obtain ⟨t2, a1, b1⟩ := kk r u t T'.heap (locs ++ L) e1.symm (by rw [← e2]; exact X'.warmed.alike) hp hb k1 k2 k3 T' rfl X'
    exact ⟨t2, st t2 a1, b1⟩
  · obtain ⟨k1, k2, k3⟩ := vx_keep h0 e1 hS hAX hf hL hF
    obtain ⟨t2, a1, b1⟩ := kx E ce q u t T'.heap (locs ++ L) e1.symm (by rw [← e2]; exact X'.warmed.alike) hp hb k1 k2 k3 (by rw [e1]; exact hce) hcv hcl T' rfl X'
    exact ⟨t2, st.trans a1, b1⟩
theorem vx_callf {S SX : Type} {post : UInt32 → S → Prop} {px : SX → Prop} {B : S → State → Prop} {BX : String → SX → State → Prop} {AX : Nat → Prop} (hr : vx_Run p l e R s m args below meth c H locs cells slots mc ms (F0 m pc ls st0) rest (va_Qf post B A1 a) (vx_X px BX AX) free) (hS : va_S A0 H0 H locs) (hA : ∀ q, q < H.size → A1 q → A0 q) (hf : ∀ q, free q → A0 q) (hAX : ∀ q, q < H.size → AX q → A0 q)
    (kx : ∀ (E : String) (ce : Cell) (q9 : Addr) (u : SX) (t : State) (H1 : Heap) (locs1 : List Loc), t.heap = H1 → s.vm.Alike t.vm → px u → BX E u t → H.size ≤ H1.size → (∀ q : Nat, q < H.size → ¬ AX q → H1[q]? = H[q]?) → va_S A0 H0 H1 locs1 → H1[q9]? = some ce → ce.vm = .none → s.vm.findClass E = some ce.cls → vx_W p l e R s m args below meth c H1 locs1 (cells + mc) (slots + ms) Q (F0 m pc ls rest) q9)
    (kk : ∀ (r : UInt32) (u : S) (t : State) (H1 : Heap) (locs1 : List Loc), t.heap = H1 → s.vm.Alike t.vm → post r u → B u t → H.size ≤ H1.size → (∀ q : Nat, q < H.size → ¬ A1 q → H1[q]? = H[q]?) → va_S A0 H0 H1 locs1 → W p l e R s m args below meth c H1 locs1 (cells + mc) (slots + ms) Q (F0 m (pc + 3) ls (.float r :: rest))) : W p l e R s m args below meth c H locs cells slots Q (F0 m pc ls st0) := by
  intro T hT X
  rcases hr T hT X with ⟨v, st₀, t, T', L, h0, X', hL, e1, e2, ⟨⟨r, u, hv, hp, hb⟩, hF⟩, st⟩ | ⟨q, st₀, t, T', L, E, ce, h0, X', hL, e1, e2, ⟨u, hp, hb, hF⟩, hce, hcv, hcl, st⟩
  · cases hv
    obtain ⟨k1, k2, k3⟩ := vx_keep h0 e1 hS hA hf hL hF
    obtain ⟨t2, a1, b1⟩ := kk r u t T'.heap (locs ++ L) e1.symm (by rw [← e2]; exact X'.warmed.alike) hp hb k1 k2 k3 T' rfl X'
    exact ⟨t2, st t2 a1, b1⟩
  · obtain ⟨k1, k2, k3⟩ := vx_keep h0 e1 hS hAX hf hL hF
    obtain ⟨t2, a1, b1⟩ := kx E ce q u t T'.heap (locs ++ L) e1.symm (by rw [← e2]; exact X'.warmed.alike) hp hb k1 k2 k3 (by rw [e1]; exact hce) hcv hcl T' rfl X'
    exact ⟨t2, st.trans a1, b1⟩
theorem vx_calld {S SX : Type} {post : UInt64 → S → Prop} {px : SX → Prop} {B : S → State → Prop} {BX : String → SX → State → Prop} {AX : Nat → Prop} (hr : vx_Run p l e R s m args below meth c H locs cells slots mc ms (F0 m pc ls st0) rest (va_Qd post B A1 a) (vx_X px BX AX) free) (hS : va_S A0 H0 H locs) (hA : ∀ q, q < H.size → A1 q → A0 q) (hf : ∀ q, free q → A0 q) (hAX : ∀ q, q < H.size → AX q → A0 q)
    (kx : ∀ (E : String) (ce : Cell) (q9 : Addr) (u : SX) (t : State) (H1 : Heap) (locs1 : List Loc), t.heap = H1 → s.vm.Alike t.vm → px u → BX E u t → H.size ≤ H1.size → (∀ q : Nat, q < H.size → ¬ AX q → H1[q]? = H[q]?) → va_S A0 H0 H1 locs1 → H1[q9]? = some ce → ce.vm = .none → s.vm.findClass E = some ce.cls → vx_W p l e R s m args below meth c H1 locs1 (cells + mc) (slots + ms) Q (F0 m pc ls rest) q9)
    (kk : ∀ (r : UInt64) (u : S) (t : State) (H1 : Heap) (locs1 : List Loc), t.heap = H1 → s.vm.Alike t.vm → post r u → B u t → H.size ≤ H1.size → (∀ q : Nat, q < H.size → ¬ A1 q → H1[q]? = H[q]?) → va_S A0 H0 H1 locs1 → W p l e R s m args below meth c H1 locs1 (cells + mc) (slots + ms) Q (F0 m (pc + 3) ls (.double r :: rest))) : W p l e R s m args below meth c H locs cells slots Q (F0 m pc ls st0) := by
  intro T hT X
  rcases hr T hT X with ⟨v, st₀, t, T', L, h0, X', hL, e1, e2, ⟨⟨r, u, hv, hp, hb⟩, hF⟩, st⟩ | ⟨q, st₀, t, T', L, E, ce, h0, X', hL, e1, e2, ⟨u, hp, hb, hF⟩, hce, hcv, hcl, st⟩
  · cases hv
    obtain ⟨k1, k2, k3⟩ := vx_keep h0 e1 hS hA hf hL hF
    obtain ⟨t2, a1, b1⟩ := kk r u t T'.heap (locs ++ L) e1.symm (by rw [← e2]; exact X'.warmed.alike) hp hb k1 k2 k3 T' rfl X'
    exact ⟨t2, st t2 a1, b1⟩
  · obtain ⟨k1, k2, k3⟩ := vx_keep h0 e1 hS hAX hf hL hF
    obtain ⟨t2, a1, b1⟩ := kx E ce q u t T'.heap (locs ++ L) e1.symm (by rw [← e2]; exact X'.warmed.alike) hp hb k1 k2 k3 (by rw [e1]; exact hce) hcv hcl T' rfl X'
    exact ⟨t2, st.trans a1, b1⟩
theorem vx_callv {S SX : Type} {post : S → Prop} {px : SX → Prop} {B : S → State → Prop} {BX : String → SX → State → Prop} {AX : Nat → Prop} (hr : vx_Run p l e R s m args below meth c H locs cells slots mc ms (F0 m pc ls st0) rest (va_Qv post B A1 a) (vx_X px BX AX) free) (hS : va_S A0 H0 H locs) (hA : ∀ q, q < H.size → A1 q → A0 q) (hf : ∀ q, free q → A0 q) (hAX : ∀ q, q < H.size → AX q → A0 q)
    (kx : ∀ (E : String) (ce : Cell) (q9 : Addr) (u : SX) (t : State) (H1 : Heap) (locs1 : List Loc), t.heap = H1 → s.vm.Alike t.vm → px u → BX E u t → H.size ≤ H1.size → (∀ q : Nat, q < H.size → ¬ AX q → H1[q]? = H[q]?) → va_S A0 H0 H1 locs1 → H1[q9]? = some ce → ce.vm = .none → s.vm.findClass E = some ce.cls → vx_W p l e R s m args below meth c H1 locs1 (cells + mc) (slots + ms) Q (F0 m pc ls rest) q9)
    (kk : ∀ (u : S) (t : State) (H1 : Heap) (locs1 : List Loc), t.heap = H1 → s.vm.Alike t.vm → post u → B u t → H.size ≤ H1.size → (∀ q : Nat, q < H.size → ¬ A1 q → H1[q]? = H[q]?) → va_S A0 H0 H1 locs1 → W p l e R s m args below meth c H1 locs1 (cells + mc) (slots + ms) Q (F0 m (pc + 3) ls (rest))) : W p l e R s m args below meth c H locs cells slots Q (F0 m pc ls st0) := by
  intro T hT X
  rcases hr T hT X with ⟨v, st₀, t, T', L, h0, X', hL, e1, e2, ⟨⟨u, hv, hp, hb⟩, hF⟩, st⟩ | ⟨q, st₀, t, T', L, E, ce, h0, X', hL, e1, e2, ⟨u, hp, hb, hF⟩, hce, hcv, hcl, st⟩
  · cases hv
    obtain ⟨k1, k2, k3⟩ := vx_keep h0 e1 hS hA hf hL hF
    obtain ⟨t2, a1, b1⟩ := kk u t T'.heap (locs ++ L) e1.symm (by rw [← e2]; exact X'.warmed.alike) hp hb k1 k2 k3 T' rfl X'
    exact ⟨t2, st t2 a1, b1⟩
  · obtain ⟨k1, k2, k3⟩ := vx_keep h0 e1 hS hAX hf hL hF
    obtain ⟨t2, a1, b1⟩ := kx E ce q u t T'.heap (locs ++ L) e1.symm (by rw [← e2]; exact X'.warmed.alike) hp hb k1 k2 k3 (by rw [e1]; exact hce) hcv hcl T' rfl X'
    exact ⟨t2, st.trans a1, b1⟩
/-- caught by the row x of this method's table; the rows ahead don't take it -/
theorem vx_catch {own name : String} {E : String} {ce : Cell} {q : Addr} (hown : s.vm.findClass own = some m.cls) (pre : List ExceptionTableEntry) (x : ExceptionTableEntry) (suf : List ExceptionTableEntry) (hsplit : c.exceptionTable.toList = pre ++ x :: suf)
    (hpass : ∀ z ∈ pre, covers z pc = false ∨ (z.catchType ≠ 0 ∧ ∃ nm : String, (Cond.classLink own z.catchType nm).before args s = true ∧ va_Nc E nm s)) (hx : covers x pc = true) (h0 : x.catchType ≠ 0)
    (hlink : (Cond.classLink own x.catchType name).before args s = true) (hcast : (Cond.castable E name).before args s = true) (hcell : H[q]? = some ce) (hv : ce.vm = .none) (hcl : s.vm.findClass E = some ce.cls)
    (kk : W p l e R s m args below meth c H locs cells slots Q (F0 m x.handlerPc ls [.ref q])) : vx_W p l e R s m args below meth c H locs cells slots Q (F0 m pc ls rest) q := by
  intro T hT X
  have hpl : e.platform.magicAccessors = ({} : Platform).magicAccessors := by rw [X.admits.platform]
  obtain ⟨c3, c4, hc3, hc4, hasg⟩ := Cond.castable_spec hcast
  cases Option.some.inj (hc3.symm.trans hcl)
  obtain ⟨c5, hc5, hcl5⟩ := Cond.classLink_spec hown hlink e.platform hpl
  cases Option.some.inj (hc4.symm.trans hc5)
  obtain ⟨vm', X', st⟩ := X.thenCaughtThrough q (g := F0 m pc ls rest) rfl (Steps.refl _) (by rw [hT]; exact hcell) (by rw [hv]; rfl) (by obtain ⟨k9, h9, -⟩ := Vm.findClass_spec hcl; exact ⟨k9, h9⟩) pre x suf hsplit
    (fun z hz => by
      rcases hpass z hz with h | ⟨hz0, nm, hl1, hn1⟩
      · exact Or.inl h
      · obtain ⟨c6, hc6, hcl6⟩ := Cond.classLink_spec hown hl1 e.platform hpl
        obtain ⟨a8, b8, h1, h2, h3⟩ := hn1
        cases Option.some.inj (h1.symm.trans hcl)
        cases Option.some.inj (h2.symm.trans hc6)
        exact Or.inr ⟨hz0, _, hcl6, h3⟩) hx (Or.inr ⟨h0, c4, hcl5, hasg⟩)
  obtain ⟨t, a1, b1⟩ := kk (T.setVm vm') hT X'
  exact ⟨t, st.trans a1, b1⟩
end Rows
section Ends
variable {p : Program} {l : Launch} {e : Env} {R : Room} {s : State} {m : MethodId} {args : Array Value} {below : List Frame} {meth : Method} {c : Code} {H : Heap} {locs : List Loc} {cells slots : Nat} {Q : State → Prop}
variable {mc ms : Nat} {free : Addr → Prop} {A0 A1 : Nat → Prop} {H0 : Heap} {a : Array Value} {ls : Array Slot} {st0 rest : List Value}
variable {Qc : Array Value → State → Outcome → State → Prop} {XC : String → State → State → Prop}
/-- what a body that may throw owes at its end -/
def vx_MQ (below : List Frame) (Qc : Array Value → State → Outcome → State → Prop) (XC : String → State → State → Prop) (a : Array Value) (s : State) (mc ms : Nat) (free : Addr → Prop) : State → Prop := fun t =>
  ∃ o, t.status = .running ∧ Ended t below o ∧ vx_Q Qc XC mc ms free a s o t
theorem vx_ret {g : JFrame} {mc ms : Nat} (k : W p l e R s m args below meth c H locs cells slots (MQ below Qc args s mc ms free) g) : W p l e R s m args below meth c H locs cells slots (vx_MQ below Qc XC args s mc ms free) g := by
  intro T hT X
  obtain ⟨t, a1, o, b1, b2, b3, b4⟩ := k T hT X
  exact ⟨t, a1, o, b1, b2, Or.inl ⟨b3, b4⟩⟩
/-- not caught here: it goes on to the caller -/
theorem vx_widen {g : JFrame} {q : Addr} {k n : Nat} (h1 : cells ≤ k) (h2 : slots ≤ n) (kk : vx_W p l e R s m args below meth c H locs k n Q g q) : vx_W p l e R s m args below meth c H locs cells slots Q g q := fun T hT X => kk T hT (stand_widen X h1 h2)
theorem vx_out {pc : Nat} {E : String} {ce : Cell} {q : Addr} {mc ms : Nat} (hout : ∀ x ∈ c.exceptionTable.toList, covers x pc = false) (hlocks : meth.locks = false) (hcell : H[q]? = some ce) (hv : ce.vm = .none) (hcl : s.vm.findClass E = some ce.cls)
    (hx : ∀ t : State, t.heap = H → s.vm.Alike t.vm → XC E s t) (hf : ∀ z ∈ locs, free z.base) (hc : cells ≤ mc) (hs : slots ≤ ms) :
    vx_W p l e R s m args below meth c H locs cells slots (vx_MQ below Qc XC args s mc ms free) (F0 m pc ls rest) q := by
  intro T hT X
  obtain ⟨st1, hrun, hend, hW, hsm⟩ := X.leaveThrown q (g := F0 m pc ls rest) rfl rfl rfl hout hlocks
  have hcell9 : (T.setFrames (.throwing q :: below)).heap[q]? = some ce := by
    show T.heap[q]? = some ce
    rw [hT]; exact hcell
  exact ⟨_, st1, .threw q, hrun, hend, Or.inr ⟨q, rfl, E, ce, locs, hx _ hT hW.alike, hcell9, hv, hcl, hW, hsm.mono hc hs, hf⟩⟩
theorem vx_frame {U : State} {k n : Nat} (h : s.sameButNew ({ U with vm := s.vm } : State) locs k n) : s.heap.size ≤ U.heap.size ∧ ∀ q : Nat, q < s.heap.size → (∀ z ∈ locs, z.base ≠ q) → U.heap[q]? = s.heap[q]? := by
  obtain ⟨-, h2, -, -, -, h6⟩ := h
  refine ⟨h2, fun q hq hz => ?_⟩
  obtain ⟨c9, e1, e2, e3, e4⟩ := h6 q _ (Array.getElem?_eq_getElem hq)
  have hs : c9.slots = (s.heap[q]).slots := Array.ext_getElem? fun i => e4 i fun hm => hz _ hm rfl
  have h9 : c9 = s.heap[q] := by
    rw [hs] at e2
    exact e2
  have e5 : U.heap[q]? = some c9 := e1
  rw [e5, h9, Array.getElem?_eq_getElem hq]
/-- the words of a throw but the four that speak of the heap -/
def vx_no (w : Cond) : Bool := decide (w ≠ .isRef (.static Bundle.tN "UNASSIGNED_STACK" Bundle.steD)) && decide (w ≠ .isRef (.static Bundle.tN "SUPPRESSED_SENTINEL" Bundle.listD)) && decide (w ≠ .laysStatic Bundle.tN "UNASSIGNED_STACK" Bundle.steD) && decide (w ≠ .laysStatic Bundle.tN "SUPPRESSED_SENTINEL" Bundle.listD)
def vx_at0 (own : String) (ic : Nat) (X : String) (names : List String) : List Cond := (Bundle.ownAtoms0 own ic X names).filter vx_no
def vx_atS (own : String) (ic : Nat) (X : String) (names : List String) : List Cond := (Bundle.ownAtoms own ic X names).filter vx_no
/-- a word that the tables alone decide, or a good one -/
def vx_ot (w : Cond) : Bool := w.onTables || goodWord w
theorem vx_ot_at {args a' : Array Value} {s U : State} {w : Cond} (hW : s.WarmedH U.vm) (hvm : s.vm = U.vm) (hg : vx_ot w = true) (h : w.before args s = true) : w.before a' U = true := by
  simp only [vx_ot, Bool.or_eq_true] at hg
  rcases hg with hg | hg
  · exact va_tabs hg hvm h
  · exact word_at hW (good_of_word hg) h
/-- a list's words: the good ones out of the method's own list, the others by premises of their own -/
theorem vx_hat {args : Array Value} {s : State} {L B : List Cond} (h1 : ∀ w ∈ L.filter goodWord, w.before args s = true) (h2 : ∀ w ∈ L.filter (fun w => !goodWord w), w ∈ B) (h3 : ∀ w ∈ B, w.before args s = true) : ∀ w ∈ L, w.before args s = true := by
  intro w hw
  by_cases g : goodWord w = true
  · exact h1 w (List.mem_filter.mpr ⟨hw, g⟩)
  · refine h3 w (h2 w (List.mem_filter.mpr ⟨hw, ?_⟩))
    show (!goodWord w) = true
    cases hgw : goodWord w
    · rfl
    · exact absurd hgw g
theorem vx_c {args : Array Value} {s : State} {w : Cond} {B : List Cond} (h : w.before args s = true) (t : ∀ w ∈ B, w.before args s = true) : ∀ w' ∈ w :: B, w'.before args s = true := fun w' h' => (List.mem_cons.mp h').elim (fun e => by rw [e]; exact h) (t w')
theorem vx_n {args : Array Value} {s : State} : ∀ w ∈ ([] : List Cond), w.before args s = true := fun _ h => nomatch h
theorem vx_own {args : Array Value} {s : State} {L : List Cond} (h1 : ∀ w ∈ L.filter vx_no, w.before args s = true)
    (hU : (Cond.isRef (.static Bundle.tN "UNASSIGNED_STACK" Bundle.steD)).before args s = true) (hN : (Cond.isRef (.static Bundle.tN "SUPPRESSED_SENTINEL" Bundle.listD)).before args s = true)
    (lU : (Cond.laysStatic Bundle.tN "UNASSIGNED_STACK" Bundle.steD).before args s = true) (lN : (Cond.laysStatic Bundle.tN "SUPPRESSED_SENTINEL" Bundle.listD).before args s = true) : ∀ w ∈ L, w.before args s = true := by
  intro w hw
  by_cases e1 : w = .isRef (.static Bundle.tN "UNASSIGNED_STACK" Bundle.steD)
  · rw [e1]; exact hU
  · by_cases e2 : w = .isRef (.static Bundle.tN "SUPPRESSED_SENTINEL" Bundle.listD)
    · rw [e2]; exact hN
    · by_cases e3 : w = .laysStatic Bundle.tN "UNASSIGNED_STACK" Bundle.steD
      · rw [e3]; exact lU
      · by_cases e4 : w = .laysStatic Bundle.tN "SUPPRESSED_SENTINEL" Bundle.listD
        · rw [e4]; exact lN
        · exact h1 w (List.mem_filter.mpr ⟨hw, by unfold vx_no; rw [decide_eq_true e1, decide_eq_true e2, decide_eq_true e3, decide_eq_true e4]; rfl⟩)
/-- where a static field lies, its class's statics cell in H -/
def vx_L (C n d : String) (A : Nat → Prop) (U : State) (H : Heap) : Prop := ∃ (c : ClassId) (k : Class) (i : Nat) (f : Field) (a : Nat) (cell : Cell), U.vm.findClass C = some c ∧ U.fieldFound? C n d = some (c, k, i, f) ∧ f.isStatic = true ∧ k.statics = some a ∧ H[a]? = some cell ∧ cell.vm.isStatics = true ∧ cell.cls = c ∧ f.slot < cell.slots.size ∧ k.staticTypes[f.slot]? = some f.type ∧ ¬ A a
theorem vx_L.moved {C n d : String} {A : Nat → Prop} {u U : State} {H : Heap} (hvm : u.vm.Alike U.vm) (h : vx_L C n d A u H) : vx_L C n d A U H := by
  obtain ⟨c, k, i, f, a, cell, h1, h2, h3, h4, h5, h6, h7, h8, h9, h10⟩ := h
  obtain ⟨k', hi', he⟩ := State.fieldFound?_setVm hvm h2
  exact ⟨c, k', i, f, a, cell, by rw [hvm.findClass]; exact h1, hi', h3, by rw [he]; exact h4, h5, h6, h7, h8, by rw [he]; exact h9, h10⟩
theorem vx_L.kept {C n d : String} {A : Nat → Prop} {U : State} {H H1 : Heap} (h : vx_L C n d A U H) (hq : ∀ a : Nat, a < H.size → ¬ A a → H1[a]? = H[a]?) : vx_L C n d A U H1 := by
  obtain ⟨c, k, i, f, a, cell, h1, h2, h3, h4, h5, h6, h7, h8, h9, h10⟩ := h
  exact ⟨c, k, i, f, a, cell, h1, h2, h3, h4, by rw [hq a (Array.getElem?_eq_some_iff.mp h5).1 h10]; exact h5, h6, h7, h8, h9, h10⟩
theorem vx_L.narrow {C n d : String} {A B : Nat → Prop} {U : State} {H : Heap} (h : vx_L C n d A U H) (hAB : ∀ q, B q → A q) : vx_L C n d B U H := by
  obtain ⟨c, k, i, f, a, cell, h1, h2, h3, h4, h5, h6, h7, h8, h9, h10⟩ := h
  exact ⟨c, k, i, f, a, cell, h1, h2, h3, h4, h5, h6, h7, h8, h9, fun z => h10 (hAB _ z)⟩
theorem vx_L.word {C n d : String} {A : Nat → Prop} {s : State} {args : Array Value} (h : vx_L C n d A s s.heap) : (Cond.laysStatic C n d).before args s = true := by
  obtain ⟨c, k, i, f, a, cell, h1, h2, h3, h4, h5, h6, h7, h8, h9, -⟩ := h
  show (Cond.laysStatic C n d).holds args s none s [] = true
  exact Cond.laysStatic_of h1 h2 h3 h4 h5 h6 h7 h8 h9
/-- .. and what it holds: null or some reference -/
def vx_Zq (C n d : String) (A : Nat → Prop) (U : State) (H : Heap) : Prop := va_Zq C n d A U H ∧ vx_L C n d A U H
theorem vx_Zq.moved {C n d : String} {A : Nat → Prop} {u U : State} {H : Heap} (hvm : u.vm.Alike U.vm) (h : vx_Zq C n d A u H) : vx_Zq C n d A U H := ⟨va_Zq.moved hvm h.1, vx_L.moved hvm h.2⟩
theorem vx_Zq.kept {C n d : String} {A : Nat → Prop} {U : State} {H H1 : Heap} (h : vx_Zq C n d A U H) (hq : ∀ a : Nat, a < H.size → ¬ A a → H1[a]? = H[a]?) : vx_Zq C n d A U H1 := ⟨va_Zq.kept h.1 hq, vx_L.kept h.2 hq⟩
theorem vx_Zq.narrow {C n d : String} {A B : Nat → Prop} {U : State} {H : Heap} (h : vx_Zq C n d A U H) (hAB : ∀ q, B q → A q) : vx_Zq C n d B U H := ⟨va_Zq.narrow h.1 hAB, vx_L.narrow h.2 hAB⟩
theorem vx_Zqof {args : Array Value} {s : State} {C n d : String} {A : Nat → Prop} (hl : (Cond.laysStatic C n d).before args s = true) (hini : (Cond.initialized C).before args s = true) (h : (Cond.isRef (.static C n d)).before args s = true) (hA : ∀ a : Nat, a < s.heap.size → ¬ A a) : vx_Zq C n d A s s.heap := by
  refine ⟨va_Zqof hl hini h hA, ?_⟩
  obtain ⟨c, k, i, f, a, cell, h1, h2, h3, h4, h5, h6, h7, h8, h9⟩ := Cond.laysStatic_spec hl
  exact ⟨c, k, i, f, a, cell, h1, h2, h3, h4, h5, h6, h7, h8, h9, hA a (Array.getElem?_eq_some_iff.mp h5).1⟩
theorem vx_isRef {C n d : String} {v : Value} {A : Nat → Prop} {s : State} {args : Array Value} (h : va_Z C n d v A s s.heap) (hv : v.isRef = true) : (Cond.isRef (.static C n d)).before args s = true := by
  obtain ⟨cf, kf, fi, f, a, cell, h1, h2, h3, h4, h5, h6, h7, -⟩ := h
  have he : (Term.static C n d).eval args s none [] s = some v := by
    simp [Term.eval, State.fieldNamed?, h1, h2, h4, h5, h6, h7]
  simp only [Cond.before, Cond.holds, Cond.value, he]
  cases v <;> simp_all [Value.isRef]
theorem vx_isRefq {C n d : String} {A : Nat → Prop} {s : State} {args : Array Value} (h : va_Zq C n d A s s.heap) : (Cond.isRef (.static C n d)).before args s = true := by
  rcases h with h | ⟨t, h⟩
  · exact vx_isRef h rfl
  · exact vx_isRef h rfl
/-- the same frame, seen from here: as if the method were called anew in this heap -/
theorem vx_rebase {T : State} (X : Stand p l e R s m args below meth c T locs cells slots) {R' : Room} (hf : R'.frames ≤ R.frames) (hl : R'.locals ≤ R.locals) (hc : cells + R'.cells ≤ R.cells) (hs : slots + R'.slots ≤ R.slots) :
    Stand p l e R' ((T.setVm s.vm).setFrames (.invoking m args :: below)) m args below meth c T [] 0 0 := by
  have htop : (T.setVm s.vm).topJava?.isSome := X.here.top
  have hF : ((T.setVm s.vm).setFrames (.invoking m args :: below)).frames = .invoking m args :: below := State.frames_setFrames _ (State.cur_lt_of_top htop)
  obtain ⟨g₀, hg0⟩ := Option.isSome_iff_exists.mp htop
  obtain ⟨r, hr⟩ := State.topJava?_eq_some.mp hg0
  have hl9 : e.platform.stackLimits (T.setVm s.vm).me = e.platform.stackLimits s.me := X.limits
  have hb9 : (T.setVm s.vm).me.stackBytes = s.me.stackBytes := X.bytes
  refine ⟨X.admits, X.cas, X.clock, hF, ?_, X.hears, X.method, X.code, X.here, X.tail, X.warmed, ?_, ?_, ?_⟩
  · have h := X.room
    have hU : ((T.setVm s.vm).setFrames (.invoking m args :: below)).localsInUse = s.localsInUse := by
      rw [State.localsInUse_invoking hF (meth := meth) (c := c) X.method X.code, State.localsInUse_invoking X.frames X.method X.code]
    simp only [State.hasRoom, Bool.and_eq_true, decide_eq_true_eq] at h ⊢
    obtain ⟨⟨⟨⟨h1, h2, h3, h4, h5, h6⟩, h7⟩, h8⟩, h9⟩ := h
    rw [X.frames, List.length_cons] at h2 h3
    have q1 := X.heapSize
    have q2 := X.used
    simp only [hF, hU, List.length_cons, State.stackLimits_setFrames, State.stackBytes_setFrames, hl9, hb9]
    refine ⟨⟨⟨⟨by omega, by omega, by omega, by omega, by omega, h6⟩, ?_⟩, ?_⟩, X.book⟩
    · show T.heap.size + R'.cells ≤ e.platform.maxCells
      omega
    · show T.slotsUsed + R'.slots ≤ e.platform.maxSlots
      omega
  · rw [State.stackLimits_setFrames]; rfl
  · rw [State.stackBytes_setFrames]; rfl
  · refine ⟨?_, Nat.le_refl _, Nat.le_refl _, ?_, ?_, fun a c9 h9 => ⟨c9, h9, rfl, rfl, fun _ _ => rfl⟩⟩
    · obtain ⟨t, ht, -⟩ := State.frames_cons hr
      show T.setVm s.vm = { ((T.setVm s.vm).setFrames (.invoking m args :: below)).setFrames (T.setVm s.vm).frames with heap := T.heap, slotsUsed := T.slotsUsed }
      rw [State.setFrames_setFrames, State.setFrames_self ht]
      rfl
    · show T.slotsUsed = T.slotsUsed + ((T.heap.toList.drop T.heap.size).map (·.slots.size)).sum
      rw [List.drop_eq_nil_of_le (Nat.le_of_eq Array.length_toList)]
      rfl
    · show ((T.heap.toList.drop T.heap.size).map (·.slots.size)).sum ≤ 0
      rw [List.drop_eq_nil_of_le (Nat.le_of_eq Array.length_toList)]
      exact Nat.le_refl _
/-- 'throw new E()': new; dup; invokespecial; athrow -/
theorem vx_throw0 {cc : ByteArray} {pc : Nat} (hexec : p.tables.exec = Jvm.exec) (hb : c.code = cc) (hl : l.stackTraces = false) {own cls : String} {names : List String} {ik ic mc ms : Nat} {A : Nat → Prop}
    (hown : s.vm.findClass own = some m.cls) (hcls : Bundle.fit cls = true) (hnames : ∀ n ∈ names, Bundle.fit n = true)
    (hk : (Cond.classLink own ik cls).before args s = true) (hini : (Cond.initialized cls).before args s = true) (hat : ∀ w ∈ vx_at0 own ic cls names, w.before args s = true)
    (hgood : ∀ w ∈ Cond.classLink own ik cls :: Cond.initialized cls :: vx_at0 own ic cls names, vx_ot w = true)
    (hU : vx_Zq Bundle.tN "UNASSIGNED_STACK" Bundle.steD A s s.heap) (hN : vx_Zq Bundle.tN "SUPPRESSED_SENTINEL" Bundle.listD A s s.heap) (hS : va_S A s.heap H locs) (hsize : ls.size = c.maxLocals)
    (d0 : decode cc pc = .ok (.new ik, 3)) (d3 : decode cc (pc + 3) = .ok (.dup, 1)) (d4 : decode cc (pc + 4) = .ok (.invokespecial ic, 3)) (d7 : decode cc (pc + 7) = .ok (.athrow, 1))
    (hout : ∀ x ∈ c.exceptionTable.toList, covers x (pc + 7) = false)
    (hRframes : names.length + 3 < R.frames) (hRlocals : (rest.map fun v => v.category).sum + (13 * (names.length + 1) + 42) ≤ R.locals) (hRcells : cells + 1 ≤ R.cells) (hRslots : slots + 6 ≤ R.slots) (hlocks : meth.locks = false)
    (hx : ∀ t : State, s.vm.Alike t.vm → H.size ≤ t.heap.size → (∀ q : Nat, q < H.size → t.heap[q]? = H[q]?) → XC cls s t)
    (hf : ∀ z ∈ locs, free z.base) (hc : cells + 1 ≤ mc) (hs : slots + 6 ≤ ms) :
    W p l e R s m args below meth c H locs cells slots (vx_MQ below Qc XC args s mc ms free) (F0 m pc ls rest) := by
  intro T hT X
  have htr : e.platform.stackTraces = false := (show e.platform.stackTraces = l.stackTraces by rw [X.admits.platform]).trans hl
  have Y := vx_rebase X (R' := { frames := R.frames, locals := R.locals, cells := 1, slots := 6 }) (Nat.le_refl _) (Nat.le_refl _) hRcells hRslots
  obtain ⟨s', hA⟩ : ∃ z, z = (T.setVm s.vm).setFrames (.invoking m args :: below) := ⟨_, rfl⟩
  rw [← hA] at Y
  have hvm : s'.vm = s.vm := by rw [hA]; rfl
  have hhp : s'.heap = H := by rw [hA]; exact hT
  have hW0 : s.WarmedH s'.vm := by rw [hvm]; exact State.WarmedH.refl s
  have hat' : ∀ w ∈ vx_at0 own ic cls names, w.before args s' = true := fun w hw => vx_ot_at hW0 hvm.symm (hgood w (List.mem_cons_of_mem _ (List.mem_cons_of_mem _ hw))) (hat w hw)
  have hk' : (Cond.classLink own ik cls).before args s' = true := vx_ot_at hW0 hvm.symm (hgood _ List.mem_cons_self) hk
  have hini' : (Cond.initialized cls).before args s' = true := vx_ot_at hW0 hvm.symm (hgood _ (List.mem_cons_of_mem _ List.mem_cons_self)) hini
  have hU' : vx_Zq Bundle.tN "UNASSIGNED_STACK" Bundle.steD A s' s'.heap := by rw [hhp]; exact vx_Zq.moved hW0.alike (hU.kept hS.2.1)
  have hN' : vx_Zq Bundle.tN "SUPPRESSED_SENTINEL" Bundle.listD A s' s'.heap := by rw [hhp]; exact vx_Zq.moved hW0.alike (hN.kept hS.2.1)
  have h : ∀ w ∈ Bundle.ownAtoms0 own ic cls names, w.before args s' = true := vx_own hat' (vx_isRefq hU'.1) (vx_isRefq hN'.1) hU'.2.word hN'.2.word
  have hown' : s'.vm.findClass own = some m.cls := by rw [hvm]; exact hown
  have hins : (Cond.instantiable cls 6).before args s' = true := h _ (by simp [Bundle.ownAtoms0])
  obtain ⟨vm₁, cX, kX, hfX, hkX, -, -, X₁, st1⟩ := Y.newCold hexec (own := own) (C := cls) (index := ik) (n := 6) hown' hk' hins hini'
    (g := F0 m pc ls rest) rfl (by rw [hb]; exact d0) (Nat.le_refl _) (Nat.le_refl _)
  generalize hT1 : (T.setVm vm₁).pushCell { cls := cX, slots := kX.instanceTypes.map defaultValue, vm := .none } = T1 at X₁ st1
  have hcat : (Value.ref T.heap.size).category = 1 := rfl
  have hcellA : T1.heap[T.heap.size]? = some (freshCell cX kX) := by rw [← hT1]; exact State.heap_pushCell_size _ _
  have d3' : decode c.code (pc + 3) = .ok (.dup, 1) := by rw [hb]; exact d3
  obtain ⟨U, hsteps, hrun, hend, hW, hsame, ce, hce, hO⟩ := X₁.ctorThrow0 hexec htr (own := own) (cls := cls) (names := names) (ic := ic) hown' hcls hnames h (fun x hx => nomatch hx) hfX hkX hcellA (by rw [hhp, hT]; exact Nat.le_refl _)
    (g := { method := m, pc := pc + 4, locals := ls, stack := .ref T.heap.size :: .ref T.heap.size :: rest, locked := none }) rfl hsize rfl rfl (rest := rest) rfl
    (by rw [hb]; exact d4) (by rw [hb]; exact d7) hout hRframes (by simp only [List.map_cons, List.sum_cons, hcat]; omega) hlocks
  obtain ⟨f1, f2⟩ := vx_frame hsame
  rw [hhp] at f1 f2
  have hWs : s.WarmedH U.vm := State.WarmedH.trans hW0 hW
  have hcl : s.vm.findClass cls = some ce.cls := by
    have h9 := hO.cls
    rw [hvm] at h9
    exact h9
  have hall : s.sameButNew ({ U with vm := s.vm } : State) locs mc ms := by
    subst hA
    obtain ⟨e1, e2⟩ := hsame
    rw [State.setFrames_setFrames] at e1
    have h2 : (T.setVm s.vm).sameButNew ({ U with vm := s.vm } : State) [] (0 + 1) (0 + 6) := ⟨e1, e2⟩
    have h3 := X.same.trans h2
    rw [List.append_nil] at h3
    exact h3.mono hc hs
  refine ⟨U, ?_, .threw T.heap.size, hrun, hend, Or.inr ⟨T.heap.size, rfl, cls, ce, locs, hx U hWs.alike f1 (fun q hq => f2 q hq (fun z hz => nomatch hz)), hce, hO.vm, hcl, hWs, hall, hf⟩⟩
  refine st1 _ ?_
  show Steps p.tables e below (T1.setTop { method := m, pc := pc + 3, locals := ls, stack := .ref T.heap.size :: rest, locked := none }) _
  jvm_step X₁.here [X₁.here.top, hexec, d3', Value.category]
  exact hsteps
/-- 'throw new E("text")': new; dup; ldc; invokespecial; athrow -/
theorem vx_throwS {cc : ByteArray} {pc : Nat} (hexec : p.tables.exec = Jvm.exec) (hb : c.code = cc) (hl : l.stackTraces = false) {own cls text : String} {names : List String} {ik is ic mc ms sa : Nat} {A : Nat → Prop}
    (hown : s.vm.findClass own = some m.cls) (hcls : Bundle.fit cls = true) (hnames : ∀ n ∈ names, Bundle.fit n = true)
    (hk : (Cond.classLink own ik cls).before args s = true) (hini : (Cond.initialized cls).before args s = true) (hstr : vk_R own is text sa s) (hat : ∀ w ∈ vx_atS own ic cls names, w.before args s = true)
    (hgood : ∀ w ∈ Cond.classLink own ik cls :: Cond.initialized cls :: vx_atS own ic cls names, vx_ot w = true)
    (hU : vx_Zq Bundle.tN "UNASSIGNED_STACK" Bundle.steD A s s.heap) (hN : vx_Zq Bundle.tN "SUPPRESSED_SENTINEL" Bundle.listD A s s.heap) (hS : va_S A s.heap H locs) (hsize : ls.size = c.maxLocals)
    (d0 : decode cc pc = .ok (.new ik, 3)) (d3 : decode cc (pc + 3) = .ok (.dup, 1)) (d4 : decode cc (pc + 4) = .ok (.ldc is, 2)) (d6 : decode cc (pc + 6) = .ok (.invokespecial ic, 3)) (d9 : decode cc (pc + 9) = .ok (.athrow, 1))
    (hout : ∀ x ∈ c.exceptionTable.toList, covers x (pc + 9) = false)
    (hRframes : names.length + 3 < R.frames) (hRlocals : (rest.map fun v => v.category).sum + (13 * (names.length + 1) + 43) ≤ R.locals) (hRcells : cells + 1 ≤ R.cells) (hRslots : slots + 6 ≤ R.slots) (hlocks : meth.locks = false)
    (hx : ∀ t : State, s.vm.Alike t.vm → H.size ≤ t.heap.size → (∀ q : Nat, q < H.size → t.heap[q]? = H[q]?) → XC cls s t)
    (hf : ∀ z ∈ locs, free z.base) (hc : cells + 1 ≤ mc) (hs : slots + 6 ≤ ms) :
    W p l e R s m args below meth c H locs cells slots (vx_MQ below Qc XC args s mc ms free) (F0 m pc ls rest) := by
  intro T hT X
  have htr : e.platform.stackTraces = false := (show e.platform.stackTraces = l.stackTraces by rw [X.admits.platform]).trans hl
  have Y := vx_rebase X (R' := { frames := R.frames, locals := R.locals, cells := 1, slots := 6 }) (Nat.le_refl _) (Nat.le_refl _) hRcells hRslots
  obtain ⟨s', hA⟩ : ∃ z, z = (T.setVm s.vm).setFrames (.invoking m args :: below) := ⟨_, rfl⟩
  rw [← hA] at Y
  have hvm : s'.vm = s.vm := by rw [hA]; rfl
  have hhp : s'.heap = H := by rw [hA]; exact hT
  have hW0 : s.WarmedH s'.vm := by rw [hvm]; exact State.WarmedH.refl s
  have hat' : ∀ w ∈ vx_atS own ic cls names, w.before args s' = true := fun w hw => vx_ot_at hW0 hvm.symm (hgood w (List.mem_cons_of_mem _ (List.mem_cons_of_mem _ hw))) (hat w hw)
  have hk' : (Cond.classLink own ik cls).before args s' = true := vx_ot_at hW0 hvm.symm (hgood _ List.mem_cons_self) hk
  have hini' : (Cond.initialized cls).before args s' = true := vx_ot_at hW0 hvm.symm (hgood _ (List.mem_cons_of_mem _ List.mem_cons_self)) hini
  have hU' : vx_Zq Bundle.tN "UNASSIGNED_STACK" Bundle.steD A s' s'.heap := by rw [hhp]; exact vx_Zq.moved hW0.alike (hU.kept hS.2.1)
  have hN' : vx_Zq Bundle.tN "SUPPRESSED_SENTINEL" Bundle.listD A s' s'.heap := by rw [hhp]; exact vx_Zq.moved hW0.alike (hN.kept hS.2.1)
  have h : ∀ w ∈ Bundle.ownAtoms own ic cls names, w.before args s' = true := vx_own hat' (vx_isRefq hU'.1) (vx_isRefq hN'.1) hU'.2.word hN'.2.word
  have hown' : s'.vm.findClass own = some m.cls := by rw [hvm]; exact hown
  have hins : (Cond.instantiable cls 6).before args s' = true := h _ (by simp [Bundle.ownAtoms])
  obtain ⟨vm₁, cX, kX, hfX, hkX, -, -, X₁, st1⟩ := Y.newCold hexec (own := own) (C := cls) (index := ik) (n := 6) hown' hk' hins hini'
    (g := F0 m pc ls rest) rfl (by rw [hb]; exact d0) (Nat.le_refl _) (Nat.le_refl _)
  generalize hT1 : (T.setVm vm₁).pushCell { cls := cX, slots := kX.instanceTypes.map defaultValue, vm := .none } = T1 at X₁ st1
  have hcat : (Value.ref T.heap.size).category = 1 := rfl
  have hcellA : T1.heap[T.heap.size]? = some (freshCell cX kX) := by rw [← hT1]; exact State.heap_pushCell_size _ _
  have d3' : decode c.code (pc + 3) = .ok (.dup, 1) := by rw [hb]; exact d3
  have d4' : decode c.code (pc + 4) = .ok (.ldc is, 2) := by rw [hb]; exact d4
  have hstr' : vk_R own is text sa s' := vk_R.warm hW0 hstr
  obtain ⟨U, hsteps, hrun, hend, hW, hsame, ce, hce, hO⟩ := X₁.ctorThrowS hexec htr (own := own) (cls := cls) (names := names) (ic := ic) hown' hcls hnames h (fun x hx => nomatch hx) hfX hkX hcellA (by rw [hhp, hT]; exact Nat.le_refl _) (msg := .ref sa) rfl
    (g := { method := m, pc := pc + 6, locals := ls, stack := .ref sa :: .ref T.heap.size :: .ref T.heap.size :: rest, locked := none }) rfl hsize rfl rfl (rest := rest) rfl
    (by rw [hb]; exact d6) (by rw [hb]; exact d9) hout hRframes (by simp only [List.map_cons, List.sum_cons, hcat]; omega) hlocks
  obtain ⟨f1, f2⟩ := vx_frame hsame
  rw [hhp] at f1 f2
  have hWs : s.WarmedH U.vm := State.WarmedH.trans hW0 hW
  have hcl : s.vm.findClass cls = some ce.cls := by
    have h9 := hO.cls
    rw [hvm] at h9
    exact h9
  have hall : s.sameButNew ({ U with vm := s.vm } : State) locs mc ms := by
    subst hA
    obtain ⟨e1, e2⟩ := hsame
    rw [State.setFrames_setFrames] at e1
    have h2 : (T.setVm s.vm).sameButNew ({ U with vm := s.vm } : State) [] (0 + 1) (0 + 6) := ⟨e1, e2⟩
    have h3 := X.same.trans h2
    rw [List.append_nil] at h3
    exact h3.mono hc hs
  refine ⟨U, ?_, .threw T.heap.size, hrun, hend, Or.inr ⟨T.heap.size, rfl, cls, ce, locs, hx U hWs.alike f1 (fun q hq => f2 q hq (fun z hz => nomatch hz)), hce, hO.vm, hcl, hWs, hall, hf⟩⟩
  refine st1 _ ?_
  show Steps p.tables e below (T1.setTop { method := m, pc := pc + 3, locals := ls, stack := .ref T.heap.size :: rest, locked := none }) _
  jvm_step X₁.here [X₁.here.top, hexec, d3', Value.category]
  exact X₁.ldcString hexec (own := own) (text := text) (index := is) (a := sa) hown' hstr'.1 hstr'.2
    (g := { method := m, pc := pc + 4, locals := ls, stack := .ref T.heap.size :: .ref T.heap.size :: rest, locked := none }) rfl d4' _ hsteps
/-- 'throw new E("text")', the text by a wide index -/
theorem vx_throwSW {cc : ByteArray} {pc : Nat} (hexec : p.tables.exec = Jvm.exec) (hb : c.code = cc) (hl : l.stackTraces = false) {own cls text : String} {names : List String} {ik is ic mc ms sa : Nat} {A : Nat → Prop}
    (hown : s.vm.findClass own = some m.cls) (hcls : Bundle.fit cls = true) (hnames : ∀ n ∈ names, Bundle.fit n = true)
    (hk : (Cond.classLink own ik cls).before args s = true) (hini : (Cond.initialized cls).before args s = true) (hstr : vk_R own is text sa s) (hat : ∀ w ∈ vx_atS own ic cls names, w.before args s = true)
    (hgood : ∀ w ∈ Cond.classLink own ik cls :: Cond.initialized cls :: vx_atS own ic cls names, vx_ot w = true)
    (hU : vx_Zq Bundle.tN "UNASSIGNED_STACK" Bundle.steD A s s.heap) (hN : vx_Zq Bundle.tN "SUPPRESSED_SENTINEL" Bundle.listD A s s.heap) (hS : va_S A s.heap H locs) (hsize : ls.size = c.maxLocals)
    (d0 : decode cc pc = .ok (.new ik, 3)) (d3 : decode cc (pc + 3) = .ok (.dup, 1)) (d4 : decode cc (pc + 4) = .ok (.ldc_w is, 3)) (d7 : decode cc (pc + 7) = .ok (.invokespecial ic, 3)) (d10 : decode cc (pc + 10) = .ok (.athrow, 1))
    (hout : ∀ x ∈ c.exceptionTable.toList, covers x (pc + 10) = false)
    (hRframes : names.length + 3 < R.frames) (hRlocals : (rest.map fun v => v.category).sum + (13 * (names.length + 1) + 43) ≤ R.locals) (hRcells : cells + 1 ≤ R.cells) (hRslots : slots + 6 ≤ R.slots) (hlocks : meth.locks = false)
    (hx : ∀ t : State, s.vm.Alike t.vm → H.size ≤ t.heap.size → (∀ q : Nat, q < H.size → t.heap[q]? = H[q]?) → XC cls s t)
    (hf : ∀ z ∈ locs, free z.base) (hc : cells + 1 ≤ mc) (hs : slots + 6 ≤ ms) :
    W p l e R s m args below meth c H locs cells slots (vx_MQ below Qc XC args s mc ms free) (F0 m pc ls rest) := by
  intro T hT X
  have htr : e.platform.stackTraces = false := (show e.platform.stackTraces = l.stackTraces by rw [X.admits.platform]).trans hl
  have Y := vx_rebase X (R' := { frames := R.frames, locals := R.locals, cells := 1, slots := 6 }) (Nat.le_refl _) (Nat.le_refl _) hRcells hRslots
  obtain ⟨s', hA⟩ : ∃ z, z = (T.setVm s.vm).setFrames (.invoking m args :: below) := ⟨_, rfl⟩
  rw [← hA] at Y
  have hvm : s'.vm = s.vm := by rw [hA]; rfl
  have hhp : s'.heap = H := by rw [hA]; exact hT
  have hW0 : s.WarmedH s'.vm := by rw [hvm]; exact State.WarmedH.refl s
  have hat' : ∀ w ∈ vx_atS own ic cls names, w.before args s' = true := fun w hw => vx_ot_at hW0 hvm.symm (hgood w (List.mem_cons_of_mem _ (List.mem_cons_of_mem _ hw))) (hat w hw)
  have hk' : (Cond.classLink own ik cls).before args s' = true := vx_ot_at hW0 hvm.symm (hgood _ List.mem_cons_self) hk
  have hini' : (Cond.initialized cls).before args s' = true := vx_ot_at hW0 hvm.symm (hgood _ (List.mem_cons_of_mem _ List.mem_cons_self)) hini
  have hU' : vx_Zq Bundle.tN "UNASSIGNED_STACK" Bundle.steD A s' s'.heap := by rw [hhp]; exact vx_Zq.moved hW0.alike (hU.kept hS.2.1)
  have hN' : vx_Zq Bundle.tN "SUPPRESSED_SENTINEL" Bundle.listD A s' s'.heap := by rw [hhp]; exact vx_Zq.moved hW0.alike (hN.kept hS.2.1)
  have h : ∀ w ∈ Bundle.ownAtoms own ic cls names, w.before args s' = true := vx_own hat' (vx_isRefq hU'.1) (vx_isRefq hN'.1) hU'.2.word hN'.2.word
  have hown' : s'.vm.findClass own = some m.cls := by rw [hvm]; exact hown
  have hins : (Cond.instantiable cls 6).before args s' = true := h _ (by simp [Bundle.ownAtoms])
  obtain ⟨vm₁, cX, kX, hfX, hkX, -, -, X₁, st1⟩ := Y.newCold hexec (own := own) (C := cls) (index := ik) (n := 6) hown' hk' hins hini'
    (g := F0 m pc ls rest) rfl (by rw [hb]; exact d0) (Nat.le_refl _) (Nat.le_refl _)
  generalize hT1 : (T.setVm vm₁).pushCell { cls := cX, slots := kX.instanceTypes.map defaultValue, vm := .none } = T1 at X₁ st1
  have hcat : (Value.ref T.heap.size).category = 1 := rfl
  have hcellA : T1.heap[T.heap.size]? = some (freshCell cX kX) := by rw [← hT1]; exact State.heap_pushCell_size _ _
  have d3' : decode c.code (pc + 3) = .ok (.dup, 1) := by rw [hb]; exact d3
  have d4' : decode c.code (pc + 4) = .ok (.ldc_w is, 3) := by rw [hb]; exact d4
  have hstr' : vk_R own is text sa s' := vk_R.warm hW0 hstr
  obtain ⟨U, hsteps, hrun, hend, hW, hsame, ce, hce, hO⟩ := X₁.ctorThrowS hexec htr (own := own) (cls := cls) (names := names) (ic := ic) hown' hcls hnames h (fun x hx => nomatch hx) hfX hkX hcellA (by rw [hhp, hT]; exact Nat.le_refl _) (msg := .ref sa) rfl
    (g := { method := m, pc := pc + 7, locals := ls, stack := .ref sa :: .ref T.heap.size :: .ref T.heap.size :: rest, locked := none }) rfl hsize rfl rfl (rest := rest) rfl
    (by rw [hb]; exact d7) (by rw [hb]; exact d10) hout hRframes (by simp only [List.map_cons, List.sum_cons, hcat]; omega) hlocks
  obtain ⟨f1, f2⟩ := vx_frame hsame
  rw [hhp] at f1 f2
  have hWs : s.WarmedH U.vm := State.WarmedH.trans hW0 hW
  have hcl : s.vm.findClass cls = some ce.cls := by
    have h9 := hO.cls
    rw [hvm] at h9
    exact h9
  have hall : s.sameButNew ({ U with vm := s.vm } : State) locs mc ms := by
    subst hA
    obtain ⟨e1, e2⟩ := hsame
    rw [State.setFrames_setFrames] at e1
    have h2 : (T.setVm s.vm).sameButNew ({ U with vm := s.vm } : State) [] (0 + 1) (0 + 6) := ⟨e1, e2⟩
    have h3 := X.same.trans h2
    rw [List.append_nil] at h3
    exact h3.mono hc hs
  refine ⟨U, ?_, .threw T.heap.size, hrun, hend, Or.inr ⟨T.heap.size, rfl, cls, ce, locs, hx U hWs.alike f1 (fun q hq => f2 q hq (fun z hz => nomatch hz)), hce, hO.vm, hcl, hWs, hall, hf⟩⟩
  refine st1 _ ?_
  show Steps p.tables e below (T1.setTop { method := m, pc := pc + 3, locals := ls, stack := .ref T.heap.size :: rest, locked := none }) _
  jvm_step X₁.here [X₁.here.top, hexec, d3', Value.category]
  exact X₁.ldcStringW hexec (own := own) (text := text) (index := is) (a := sa) hown' hstr'.1 hstr'.2
    (g := { method := m, pc := pc + 4, locals := ls, stack := .ref T.heap.size :: .ref T.heap.size :: rest, locked := none }) rfl d4' _ hsteps
end Ends
section Bodies
variable {l : Launch}
theorem vx_ofW {y : MethodName} {ws ws' : List Cond} {rm : Room} {Pc : Array Value → State → Prop} {Qc : Array Value → State → Outcome → State → Prop} {XC : String → State → State → Prop} {mc ms : Nat} {free : Addr → Prop} {cc : ByteArray} {maxL : Nat} {ret : Option FieldType}
    (hy : plainName y.cls = true) (hw : ws = Cond.code y cc maxL ret :: ws')
    (body : ∀ p e s m args below meth c s₁, BodyLoose p l y (headSpec ws rm) cc maxL ret e s m args below meth c s₁ → c.maxLocals = maxL → (∀ x ∈ c.exceptionTable.toList, False) → Pc args s →
      W p l e (headSpec ws rm).room s m args below meth c s.heap [] 0 0 (vx_MQ below Qc XC args s mc ms free) (entryFrame m args maxL)) : vx_Met l y ws rm Pc Qc XC mc ms free := by
  refine MetFree.of_bodyS (code := cc) (maxLocals := maxL) (ret := ret) hy ?_ ?_
  · intro args s m h hn
    obtain ⟨meth, c, h1, h2, h3, h4, h5, h6, -, -⟩ := Cond.code_spec hn (atoms_spec (ws := ws) h _ (by rw [hw]; exact List.mem_cons_self))
    exact ⟨meth, c, h1, h2, h3, h4, h5, h6⟩
  · intro p e s m args below meth c s₁ B hml hP _
    have hh0 : s₁.heap = s.heap := by rw [B.state]; rfl
    have ht : ∀ x ∈ c.exceptionTable.toList, False := by
      obtain ⟨meth9, c9, h1, h2, -, -, -, -, h7, -⟩ := Cond.code_spec B.named (atoms_spec (ws := ws) B.pre _ (by rw [hw]; exact List.mem_cons_self))
      cases Option.some.inj (h1.symm.trans B.method)
      cases Option.some.inj (h2.symm.trans (Stand.of_body B).code)
      intro x hx
      rw [Array.isEmpty_iff.mp h7] at hx
      cases hx
    obtain ⟨t, a1, o, b1, b2, b3⟩ := body p e s m args below meth c s₁ B hml ht hP s₁ hh0 (Stand.of_body B)
    exact ⟨t, o, a1, b1, b2, b3⟩
/-- the table of a body with handlers -/
theorem vx_table {p : Program} {x y : MethodName} {S : Spec} {cc bytes : ByteArray} {maxL maxL' : Nat} {ret ret' : Option FieldType} {e : Env} {s s₁ : State} {m : MethodId} {args : Array Value} {below : List Frame} {meth : Method} {c : Code} {hh : List (Nat × Nat × Nat × Nat)}
    (B : BodyLoose p l y S cc maxL ret e s m args below meth c s₁) (h : (Cond.codeWith y bytes maxL' ret' hh).before args s = true) : c.exceptionTable.toList = tableOf hh := by
  obtain ⟨m9, meth9, c9, hn9, h1, h2, -, -, h6, -⟩ := Cond.codeWith_spec h
  cases Option.some.inj (hn9.symm.trans B.named)
  cases Option.some.inj (h1.symm.trans B.method)
  cases Option.some.inj (h2.symm.trans (Stand.of_body B).code)
  rw [← h6, table_eq]
end Bodies
end VXA
/-! ===== END ===== -/
/-! ===== BEGIN a static call of a method with an exception table ===== -/
section VXS
variable {p : Program} {l : Launch} {e : Env} {R : Room} {s : State} {m : MethodId} {args : Array Value} {below : List Frame} {meth : Method} {c : Code} {T : State} {H : Heap} {locs : List Loc} {cells slots : Nat}
abbrev vx_CSW (R : Room) (s : State) (args : Array Value) (own : String) (index : Nat) (y : MethodName) (bytes : ByteArray) (maxL : Nat) (ret : Option FieldType) (hh : List (Nat × Nat × Nat × Nat)) (ws : List Cond) (rm : Room) (mc ms n : Nat) : Prop :=
  (rm.cells = mc ∧ rm.slots = ms ∧ rm.frames + 1 ≤ R.frames ∧ 8 + (maxL + 11) + rm.locals ≤ R.locals ∧ (∀ w ∈ ws, ∀ (a' : Array Value) (U : State), s.WarmedH U.vm → w.before a' U = true) ∧ Cond.codeWith y bytes maxL ret hh ∈ ws) ∧
  (Cond.codeWith y bytes maxL ret hh).before args s = true ∧ (Cond.initialized y.cls).before args s = true ∧ (y.cls ≠ "java/lang/invoke/MethodHandle" ∧ y.cls ≠ "java/lang/invoke/VarHandle") ∧
  (∀ sig, parseMethodDescriptor y.desc = some sig → n = sig.parameters.length) ∧ (Cond.methodLink own index y).before args s = true ∧ (Cond.static y).before args s = true
theorem vx_cwSW {own : String} {index maxL mc ms : Nat} {y : MethodName} {bytes : ByteArray} {ret : Option FieldType} {hh : List (Nat × Nat × Nat × Nat)} {Ts ws ws' : List Cond} {rm : Room} (n : Nat) (ht : ∀ w ∈ Ts, w.before args s = true) (hT : GoodIn Ts (va_wsS own index y ws)) (hw : ws = Cond.codeWith y bytes maxL ret hh :: ws') (hrc : rm.cells = mc) (hrs : rm.slots = ms)
    (hd : y.cls ≠ "java/lang/invoke/MethodHandle" ∧ y.cls ≠ "java/lang/invoke/VarHandle" ∧ (parseMethodDescriptor y.desc).map (fun d => d.parameters.length) = some n) (hR : rm.frames + 1 ≤ R.frames ∧ 8 + (maxL + 11) + rm.locals ≤ R.locals) :
    vx_CSW R s args own index y bytes maxL ret hh ws rm mc ms n := by
  have ok : ∀ w ∈ va_wsS own index y ws, w.before args s = true := fun w h => ht w (hT w h).1
  have hG : GoodIn Ts ws := fun w h => hT w (by unfold va_wsS; exact List.mem_append_right _ h)
  have hc : Cond.codeWith y bytes maxL ret hh ∈ ws := by rw [hw]; exact List.mem_cons_self
  refine ⟨⟨hrc, hrs, hR.1, hR.2, pay_in ht hG, hc⟩, ht _ (hG _ hc).1, ok _ (by simp [va_wsS]), ⟨hd.1, hd.2.1⟩, fun sig h => ?_, ok _ (by simp [va_wsS]), ok _ (by simp [va_wsS])⟩
  have h2 := hd.2.2
  rw [h] at h2
  exact (Option.some.inj h2).symm
theorem vx_callSW (X : Stand p l e R s m args below meth c T locs cells slots) (hexec : p.tables.exec = Jvm.exec) {own : String} {index : Nat} {y : MethodName} {bytes : ByteArray} {maxL : Nat} {ret : Option FieldType} {hh : List (Nat × Nat × Nat × Nat)}
    (hown : s.vm.findClass own = some m.cls) (hlink : (Cond.methodLink own index y).before args s = true) (hstat : (Cond.static y).before args s = true) (hinit : (Cond.initialized y.cls).before args s = true)
    (hcode : (Cond.codeWith y bytes maxL ret hh).before args s = true) (hy : y.cls ≠ "java/lang/invoke/MethodHandle" ∧ y.cls ≠ "java/lang/invoke/VarHandle")
    {W9 : Nat} {Pre : Pt → Array Value → Prop} {Post : Pt → Array Value → Option Value → Pt → Prop} (hK : Back l R p e below s args y 3 W9 Pre Post)
    {g : JFrame} (hg : g.method = m) (hsize : g.locals.size = c.maxLocals) {argsL rest : List Value} (hlen : ∀ sig, parseMethodDescriptor y.desc = some sig → argsL.length = sig.parameters.length)
    (hstack : g.stack = argsL.reverse ++ rest) (hW : 2 * g.monitorRoom + (rest.map fun v => v.category).sum ≤ W9) (hdg : decode c.code g.pc = .ok (.invokestatic index, 3))
    (hpre : ∀ vm₁, s.WarmedH vm₁ → Pre ⟨T.setVm vm₁, locs, cells, slots⟩ argsL.toArray) :
    ∃ (v : Option Value) (vm₁ : Vm) (B : Pt), s.WarmedH vm₁ ∧ Stand p l e R s m args below meth c B.U B.locs B.cells B.slots ∧ Post ⟨T.setVm vm₁, locs, cells, slots⟩ argsL.toArray v B ∧
      ∀ target, Steps p.tables e below (B.U.setTop { g with pc := g.pc + 3, stack := v.toList ++ rest }) target → Steps p.tables e below (T.setTop g) target := by
  obtain ⟨mk, methM, cM, hnamed, hmethM, -, -, -, -, -, -, hsigM⟩ := Cond.codeWith_spec hcode
  have hstatic : methM.isStatic = true := Cond.static_spec hnamed hmethM hstat
  obtain ⟨kP, hkP, -⟩ := className_of_methodNamed hnamed
  have hinitP : kP.init = .initialized := Cond.initialized_spec (findClass_of_methodNamed hnamed) hkP hinit
  obtain ⟨vm₁, X₁, hstep₁⟩ := X.invokestatic hexec hown hlink hnamed hmethM hstatic hkP hinitP hy (g := g) hg (argsL := argsL) (rest := rest) (hlen _ hsigM) hstack hdg
  obtain ⟨v, B, X', hpost, hsteps⟩ := hK m meth c ⟨T.setVm vm₁, locs, cells, slots⟩ { g with stack := rest } (.invokestatic index) mk argsL.toArray X₁ hg hsize hdg hW (X₁.named hnamed) (hpre vm₁ X₁.warmed)
  exact ⟨v, vm₁, B, X₁.warmed, X', hpost, fun target h => hstep₁ _ fun acts => by rw [doInvoke_state]; exact hsteps.trans h⟩
theorem vx_runSW {y : MethodName} {bytes cc : ByteArray} {maxL nL mc ms n index : Nat} {ret : Option FieldType} {hh : List (Nat × Nat × Nat × Nat)} {ws : List Cond} {rm : Room} {Pc : Array Value → State → Prop} {Qc : Array Value → State → Outcome → State → Prop} {free : Addr → Prop} {Ts : List Cond} {own : String} {As rest : List Value} {g : JFrame}
    (S : CallFix p m c cc nL s args Ts own) (hM : Met l y ws rm Pc Qc mc ms free) (cw : vx_CSW R s args own index y bytes maxL ret hh ws rm mc ms n) (hp : PreS s H Pc As)
    (hg : g.method = m) (hn : As.length = n) (hsize : g.locals.size = nL) (hstack : g.stack = As.reverse ++ rest) (hW : 2 * g.monitorRoom + (rest.map fun v => v.category).sum ≤ 8) (hdg : decode cc g.pc = .ok (.invokestatic index, 3)) (hf : cells + mc ≤ R.cells ∧ slots + ms ≤ R.slots) :
    va_Run p l e R s m args below meth c H locs cells slots mc ms g rest (Qc As.toArray) (free) := by
  obtain ⟨⟨hrc, hrs, hfr, hlo, hws, hcw⟩, hcode, hini, hy, hlen, hl, hstt⟩ := cw
  have hK : Back l R p e below s args y 3 8 (PreOf R mc ms Pc) (PostOf Qc mc ms free) := va_backW (hh := hh) (bytes := bytes) (maxL := maxL) (ret := ret) hM hp.1 hrc hrs hfr hlo hws hcw (fun a' U hW => word_at hW (Or.inl (by first | rfl | simp [Cond.onTables, Cond.keeps, Cond.steady])) hini)
  obtain ⟨hx, hb, hml, ho, -⟩ := S
  intro T hT X
  obtain ⟨v, vm₁, ⟨U', l2, c2, s2⟩, hW₁, X', ⟨g', mk, t, L, e1, e2, hq, h1, hL, h2, h3⟩, st⟩ := vx_callSW X hx (hh := hh) (bytes := bytes) (maxL := maxL) (ret := ret) ho hl hstt hini hcode hy hK hg (hsize.trans hml.symm) (argsL := As) (rest := rest) (fun sig h => hn.trans (hlen sig h)) hstack hW (by rw [hb]; exact hdg)
    (fun vm₁ hW₁ => ⟨hf.1, hf.2, hp.2 (T.setVm vm₁) hT hW₁⟩)
  dsimp only [Pt.U, Pt.locs, Pt.cells, Pt.slots] at X' e1 e2 h1 h2 h3 st
  subst h1; subst h2; subst h3
  exact ⟨v, (T.setVm vm₁).calling g' mk As.toArray, t, U', L, hT, X', hL, e1, e2, hq, st⟩
/-- not caught here, past rows that name other classes: it goes on to the caller -/
theorem vx_outP {p : Program} {l : Launch} {e : Env} {R : Room} {s : State} {m : MethodId} {args : Array Value} {below : List Frame} {meth : Method} {c : Code} {H : Heap} {locs : List Loc} {cells slots : Nat} {free : Addr → Prop} {ls : Array Slot} {rest : List Value} {Qc : Array Value → State → Outcome → State → Prop} {XC : String → State → State → Prop}
    {pc : Nat} {own E : String} {ce : Cell} {q : Addr} {mc ms : Nat} (hown : s.vm.findClass own = some m.cls) (hlocks : meth.locks = false)
    (hpass : ∀ z ∈ c.exceptionTable.toList, covers z pc = false ∨ (z.catchType ≠ 0 ∧ ∃ nm : String, (Cond.classLink own z.catchType nm).before args s = true ∧ va_Nc E nm s)) (hcell : H[q]? = some ce) (hv : ce.vm = .none) (hcl : s.vm.findClass E = some ce.cls)
    (hx : ∀ t : State, t.heap = H → s.vm.Alike t.vm → XC E s t) (hf : ∀ z ∈ locs, free z.base) (hc : cells ≤ mc) (hs : slots ≤ ms) :
    vx_W p l e R s m args below meth c H locs cells slots (vx_MQ below Qc XC args s mc ms free) (F0 m pc ls rest) q := by
  intro T hT X
  have hpl : e.platform.magicAccessors = ({} : Platform).magicAccessors := by rw [X.admits.platform]
  obtain ⟨vm', hW', X', st⟩ := X.outThrough hlocks q (g := F0 m pc ls rest) rfl rfl rfl (cell := ce) (by rw [hT]; exact hcell) (by rw [hv]; rfl)
    (by obtain ⟨k9, h9, -⟩ := Vm.findClass_spec hcl; exact ⟨k9, h9⟩) (fun z hz => by
      rcases hpass z hz with h | ⟨hz0, nm, hl1, hn1⟩
      · exact Or.inl h
      · obtain ⟨c6, hc6, hcl6⟩ := Cond.classLink_spec hown hl1 e.platform hpl
        obtain ⟨a8, b8, h1, h2, h3⟩ := hn1
        cases Option.some.inj (h1.symm.trans hcl)
        cases Option.some.inj (h2.symm.trans hc6)
        exact Or.inr ⟨hz0, _, hcl6, h3⟩)
  obtain ⟨g₀, hfr⟩ := X'.frames_eq
  have hcell9 : ((T.setVm vm').setFrames (.throwing q :: below)).heap[q]? = some ce := by
    show T.heap[q]? = some ce
    rw [hT]; exact hcell
  have hend : Ended ((T.setVm vm').setFrames (.throwing q :: below)) below (.threw q) := State.frames_setFrames _ (State.cur_lt_of_frames hfr)
  refine ⟨(T.setVm vm').setFrames (.throwing q :: below), ?_, .threw q, X'.here.running, hend, Or.inr ⟨q, rfl, E, ce, locs, hx _ hT (X'.ends _).1.alike, hcell9, hv, hcl, (X'.ends _).1, (X'.ends _).2.mono hc hs, hf⟩⟩
  rw [X.pushThrowing_eq]
  exact st
/-- a thing of a world lies in the heap -/
theorem vx_lt {D : va_G} {cl : List vw_C} {ws : va_W} {H1 : Heap} (h : va_P D cl ws H1) {k : Nat} {q : Nat × va_E} (hk : ws[k]? = some q) : q.1 < H1.size := (h k q hk).lt
end VXS
/-! ===== END ===== -/
/-! ===== BEGIN methods with a table of their own: called by a name, returning or throwing ===== -/
section VXH
/-! vx_backW, vx_callVX, vx_callSX, vx_callVW, vx_runVW, vx_runVX, vx_runSX, vx_ofWH follow the same proofs as their sisters above (Free/Laws.lean, Shelf42/LK1.lean); vx_outP calls Shelf42/NT130.lean (outThrough). -/
section
variable {l : Launch} {R : Room} {p : Program} {e : Env} {below : List Frame} {s : State} {sargs : Array Value} {y : MethodName} {len W9 : Nat}
theorem vx_backW {ws : List Cond} {rm : Room} {Pc : Array Value → State → Prop} {Qc : Array Value → State → Outcome → State → Prop} {XC : String → State → State → Prop} {mc ms : Nat} {free : Addr → Prop} {bytes : ByteArray} {maxL : Nat} {ret : Option FieldType} {hh : List (Nat × Nat × Nat × Nat)}
    (hM : vx_Met l y ws rm Pc Qc XC mc ms free) (hblind : FrameBlind Pc) (hrc : rm.cells = mc) (hrs : rm.slots = ms)
    (hframes : rm.frames + 1 ≤ R.frames) (hlocals : W9 + (maxL + 11) + rm.locals ≤ R.locals)
    (hws : ∀ w ∈ ws, ∀ a' U, s.WarmedH U.vm → w.before a' U = true) (hcode : Cond.codeWith y bytes maxL ret hh ∈ ws) (hinit : ∀ a' U, s.WarmedH U.vm → (Cond.initialized y.cls).before a' U = true) :
    vx_Back l R p e below s sargs y len W9 (PreOf R mc ms Pc) (PostOf Qc mc ms free) (vx_Post XC mc ms free) := by
  intro m meth c A g ig mk a X hg hsize hdg hW hn hp
  have h1 : (headSpec ws rm).pre.before a A.U = true := atoms_intro fun w hw => hws w hw _ _ X.warmed
  have h2 : (Cond.codeWith y bytes maxL ret hh).before a A.U = true := hws _ hcode _ _ X.warmed
  have h3 : (Cond.initialized y.cls).before a A.U = true := hinit _ _ X.warmed
  have h4 : A.cells + (headSpec ws rm).room.cells ≤ R.cells := by rw [show (headSpec ws rm).room.cells = mc from hrc]; exact hp.1
  have h5 : A.slots + (headSpec ws rm).room.slots ≤ R.slots := by rw [show (headSpec ws rm).room.slots = ms from hrs]; exact hp.2.1
  have hPc : Pc a (A.U.calling g mk a) := hblind _ _ _ _ hp.2.2
  obtain ⟨U, Ls, c0, s0⟩ := A
  dsimp only [Pt.U, Pt.locs, Pt.cells, Pt.slots] at h1 h2 h3 h4 h5 X hn hPc ⊢
  obtain ⟨m9, methY, cY, hn9, hmY, hcY, -, hlY, -⟩ := Cond.codeWith_spec h2
  cases Option.some.inj (hn9.symm.trans hn)
  obtain ⟨kY, hkY, -⟩ := className_of_methodNamed hn
  have hinitY : kY.init = .initialized := Cond.initialized_spec (findClass_of_methodNamed hn) hkY h3
  have h : At U g.method c below := by rw [hg]; exact X.here
  have hlocals9 : W9 + (maxL + 11) + (headSpec ws rm).room.locals ≤ R.locals := hlocals
  have happ : (headSpec ws rm).appliesLoose y e.platform (U.calling g mk a) = true :=
    Spec.appliesLoose_calling (g := g) h hdg hn hkY hinitY
      (X.room_calling (g := g) (R' := (headSpec ws rm).room) hsize hmY hcY hframes (by rw [hlY]; omega) h4 h5) h1
  obtain ⟨mid, hmid⟩ := h.above
  have hfr : (U.setTop g).frames = (.java g :: mid) ++ below := by rw [State.frames_setTop' g h.top, hmid]; rfl
  obtain ⟨o, s₂, hsteps, -, hend, hq⟩ := Steps.callFree hM p X.admits X.cas X.clock (acts := []) hfr happ hPc trivial
  have hq' : vx_Q Qc XC mc ms free a (U.calling g mk a) o s₂ := hq
  rw [State.frames_setTop' g h.top] at hend
  obtain ⟨g₀, hg0⟩ := Option.isSome_iff_exists.mp h.top
  obtain ⟨r, hr⟩ := State.topJava?_eq_some.mp hg0
  have hr' : (({ U with heap := s₂.heap, slotsUsed := s₂.slotsUsed } : State).setVm s₂.vm).frames = .java g₀ :: r := hr
  rcases hq' with ⟨hqc, L, hfe, hL⟩ | ⟨q, rfl, E, ce, L, hx, hce, hcv, hcl, hW₂, hsm, hL⟩
  · obtain ⟨⟨v, rfl⟩, hW₂, e2, q2, q3, q4, q5, q6⟩ := id hfe
    have e3 : s₂ = ({ (U.calling g mk a).setFrames s₂.frames with heap := s₂.heap, slotsUsed := s₂.slotsUsed } : State).setVm s₂.vm := by
      have : s₂ = ({ s₂ with vm := (U.calling g mk a).vm } : State).setVm s₂.vm := rfl
      rw [e2] at this
      exact this
    obtain ⟨c₂, i₂, len₂, hc₂, hd₂, hf₂⟩ := hend
    have hW' : U.WarmedH s₂.vm := hW₂
    have hcc : c₂ = c := by
      have h1 : s₂.code? g.method = U.code? g.method := by
        rw [State.code?_eq, State.code?_eq, hW'.alike.method?]
      exact Option.some.inj (hc₂.symm.trans (h1.trans h.code))
    subst hcc
    have hlen : len₂ = len := by rw [hdg] at hd₂; cases hd₂; rfl
    subst hlen
    have hs₂ : s₂ = (({ U with heap := s₂.heap, slotsUsed := s₂.slotsUsed } : State).setVm s₂.vm).setTop { g with pc := g.pc + len₂, stack := v.toList ++ g.stack } := by
      refine e3.trans ?_
      rw [hf₂, State.calling_eq h.top, State.setFrames_setFrames, State.setTop_of_frames _ hr', hr]
      rfl
    have hsame : U.sameButNew ({ U with heap := s₂.heap, slotsUsed := s₂.slotsUsed } : State) L mc ms := by
      refine ⟨?_, q2, q3, q4, q5, q6⟩
      obtain ⟨t, ht, -⟩ := State.frames_cons hr
      show ({ U with heap := s₂.heap, slotsUsed := s₂.slotsUsed } : State) = { U.setFrames U.frames with heap := s₂.heap, slotsUsed := s₂.slotsUsed }
      rw [State.setFrames_self ht]
    subst hg
    refine Or.inl ⟨v, ⟨(({ U with heap := s₂.heap, slotsUsed := s₂.slotsUsed } : State).setVm s₂.vm), Ls ++ L, c0 + mc, s0 + ms⟩,
      ⟨X.admits, X.cas, X.clock, X.frames, X.room, X.hears, X.method, X.code, (X.here.setHeapUsed s₂.heap s₂.slotsUsed).setVm hW'.alike, X.tail, State.WarmedH.trans X.warmed hW', X.limits, X.bytes, X.same.trans (hsame.setVm s.vm)⟩,
      ⟨g, mk, s₂, L, rfl, rfl, hqc, rfl, hL, rfl, rfl⟩, ?_⟩
    show Steps p.tables e below _ ((({ U with heap := s₂.heap, slotsUsed := s₂.slotsUsed } : State).setVm s₂.vm).setTop { g with pc := g.pc + len₂, stack := v.toList ++ g.stack })
    rw [← hs₂]
    exact hsteps
  · obtain ⟨e2, q2, q3, q4, q5, q6⟩ := id hsm
    have e3 : s₂ = ({ (U.calling g mk a).setFrames s₂.frames with heap := s₂.heap, slotsUsed := s₂.slotsUsed } : State).setVm s₂.vm := by
      have : s₂ = ({ s₂ with vm := (U.calling g mk a).vm } : State).setVm s₂.vm := rfl
      rw [e2] at this
      exact this
    have hf₂ : s₂.frames = .throwing q :: .java g :: U.frames.tail := hend
    have hW' : U.WarmedH s₂.vm := hW₂
    have hs₂ : s₂ = ((({ U with heap := s₂.heap, slotsUsed := s₂.slotsUsed } : State).setVm s₂.vm).setTop g).pushFrame (.throwing q) := by
      refine e3.trans ?_
      rw [hf₂, State.calling_eq h.top, State.setFrames_setFrames, State.pushFrame, State.frames_setTop _ hr', State.setTop_of_frames _ hr', State.setFrames_setFrames, hr]
      rfl
    have hsame : U.sameButNew ({ U with heap := s₂.heap, slotsUsed := s₂.slotsUsed } : State) L mc ms := by
      refine ⟨?_, q2, q3, q4, q5, q6⟩
      obtain ⟨t, ht, -⟩ := State.frames_cons hr
      show ({ U with heap := s₂.heap, slotsUsed := s₂.slotsUsed } : State) = { U.setFrames U.frames with heap := s₂.heap, slotsUsed := s₂.slotsUsed }
      rw [State.setFrames_self ht]
    subst hg
    refine Or.inr ⟨q, ⟨(({ U with heap := s₂.heap, slotsUsed := s₂.slotsUsed } : State).setVm s₂.vm), Ls ++ L, c0 + mc, s0 + ms⟩,
      ⟨X.admits, X.cas, X.clock, X.frames, X.room, X.hears, X.method, X.code, (X.here.setHeapUsed s₂.heap s₂.slotsUsed).setVm hW'.alike, X.tail, State.WarmedH.trans X.warmed hW', X.limits, X.bytes, X.same.trans (hsame.setVm s.vm)⟩,
      ⟨g, mk, s₂, L, E, ce, rfl, rfl, hx, hce, hcv, hcl, rfl, hL, rfl, rfl⟩, ?_⟩
    show Steps p.tables e below _ (((({ U with heap := s₂.heap, slotsUsed := s₂.slotsUsed } : State).setVm s₂.vm).setTop g).pushFrame (.throwing q))
    rw [← hs₂]
    exact hsteps
end
variable {p : Program} {l : Launch} {e : Env} {R : Room} {s : State} {m : MethodId} {args : Array Value} {below : List Frame} {meth : Method} {c : Code} {T : State} {H : Heap} {locs : List Loc} {cells slots : Nat}
theorem vx_callVX (X : Stand p l e R s m args below meth c T locs cells slots) (hexec : p.tables.exec = Jvm.exec) {own C : String} {index : Nat} {y : MethodName} {bytes : ByteArray} {maxL : Nat} {ret : Option FieldType} {hh : List (Nat × Nat × Nat × Nat)}
    (hown : s.vm.findClass own = some m.cls) (hlink : (Cond.methodLink own index y).before args s = true) (hinst : (Cond.instanceMethod y).before args s = true) (hsel : (Cond.selects C y y).before args s = true)
    (hcode : (Cond.codeWith y bytes maxL ret hh).before args s = true) (hy : y.cls ≠ "java/lang/invoke/MethodHandle" ∧ y.cls ≠ "java/lang/invoke/VarHandle")
    {W9 : Nat} {Pre : Pt → Array Value → Prop} {Post : Pt → Array Value → Option Value → Pt → Prop} {PostX : Pt → Array Value → Addr → Pt → Prop} (hK : vx_Back l R p e below s args y 3 W9 Pre Post PostX)
    {b : Addr} {cellB : Cell} (hcell : T.heap[b]? = some cellB) (hobj : cellB.vm.isStatics = false) (hcls : s.vm.findClass C = some cellB.cls)
    {g : JFrame} (hg : g.method = m) (hsize : g.locals.size = c.maxLocals) {argsL rest : List Value} (hlen : ∀ sig, parseMethodDescriptor y.desc = some sig → argsL.length = sig.parameters.length)
    (hstack : g.stack = argsL.reverse ++ .ref b :: rest) (hW : 2 * g.monitorRoom + (rest.map fun v => v.category).sum ≤ W9) (hdg : decode c.code g.pc = .ok (.invokevirtual index, 3))
    (hpre : ∀ vm₁, s.WarmedH vm₁ → Pre ⟨T.setVm vm₁, locs, cells, slots⟩ (Value.ref b :: argsL).toArray) :
    (∃ (v : Option Value) (vm₁ : Vm) (B : Pt), s.WarmedH vm₁ ∧ Stand p l e R s m args below meth c B.U B.locs B.cells B.slots ∧ Post ⟨T.setVm vm₁, locs, cells, slots⟩ (Value.ref b :: argsL).toArray v B ∧
      ∀ target, Steps p.tables e below (B.U.setTop { g with pc := g.pc + 3, stack := v.toList ++ rest }) target → Steps p.tables e below (T.setTop g) target) ∨
    (∃ (q : Addr) (vm₁ : Vm) (B : Pt), s.WarmedH vm₁ ∧ Stand p l e R s m args below meth c B.U B.locs B.cells B.slots ∧ PostX ⟨T.setVm vm₁, locs, cells, slots⟩ (Value.ref b :: argsL).toArray q B ∧
      Steps p.tables e below (T.setTop g) ((B.U.setTop { g with stack := rest }).pushFrame (.throwing q))) := by
  obtain ⟨mk, methM, hnamed, hmethM, hstM, habM⟩ := Cond.instanceMethod_spec hinst
  obtain ⟨m8, methM', cM, hn8, hmethM', -, -, -, -, -, -, hsigM⟩ := Cond.codeWith_spec hcode
  cases Option.some.inj (hn8.symm.trans hnamed)
  cases hmethM.symm.trans hmethM'
  obtain ⟨c2, r2, m2, q1, q2, q3, q4, kP, hkP, hkPi⟩ := Cond.selects_spec hsel
  cases hcls.symm.trans q1
  cases (State.methodFound?_of_named hnamed hy).symm.trans q2
  cases hnamed.symm.trans q3
  have hselP : selectMethod e.platform s.vm cellB.cls mk = .method mk := by rw [Launch.admits_selectMethod X.admits]; exact q4
  obtain ⟨vm₁, X₁, hstep₁⟩ := X.invokevirtual hexec hown hlink hnamed hmethM hstM hkP hkPi hy (a := b) (cell := cellB) hcell
    (fun z h => by rw [h] at hobj; cases hobj) hselP hmethM habM hkP hkPi (g := g) hg (argsL := argsL) (rest := rest) (hlen _ hsigM) hstack hdg
  rcases hK m meth c ⟨T.setVm vm₁, locs, cells, slots⟩ { g with stack := rest } (.invokevirtual index) mk (Value.ref b :: argsL).toArray X₁ hg hsize hdg hW (X₁.named hnamed) (hpre vm₁ X₁.warmed) with ⟨v, B, X', hpost, hsteps⟩ | ⟨q, B, X', hpost, hsteps⟩
  · exact Or.inl ⟨v, vm₁, B, X₁.warmed, X', hpost, fun target h => hstep₁ _ fun acts => by rw [doInvoke_state]; exact hsteps.trans h⟩
  · exact Or.inr ⟨q, vm₁, B, X₁.warmed, X', hpost, hstep₁ _ fun acts => by rw [doInvoke_state]; exact hsteps⟩
theorem vx_callSX (X : Stand p l e R s m args below meth c T locs cells slots) (hexec : p.tables.exec = Jvm.exec) {own : String} {index : Nat} {y : MethodName} {bytes : ByteArray} {maxL : Nat} {ret : Option FieldType} {hh : List (Nat × Nat × Nat × Nat)}
    (hown : s.vm.findClass own = some m.cls) (hlink : (Cond.methodLink own index y).before args s = true) (hstat : (Cond.static y).before args s = true) (hinit : (Cond.initialized y.cls).before args s = true)
    (hcode : (Cond.codeWith y bytes maxL ret hh).before args s = true) (hy : y.cls ≠ "java/lang/invoke/MethodHandle" ∧ y.cls ≠ "java/lang/invoke/VarHandle")
    {W9 : Nat} {Pre : Pt → Array Value → Prop} {Post : Pt → Array Value → Option Value → Pt → Prop} {PostX : Pt → Array Value → Addr → Pt → Prop} (hK : vx_Back l R p e below s args y 3 W9 Pre Post PostX)
    {g : JFrame} (hg : g.method = m) (hsize : g.locals.size = c.maxLocals) {argsL rest : List Value} (hlen : ∀ sig, parseMethodDescriptor y.desc = some sig → argsL.length = sig.parameters.length)
    (hstack : g.stack = argsL.reverse ++ rest) (hW : 2 * g.monitorRoom + (rest.map fun v => v.category).sum ≤ W9) (hdg : decode c.code g.pc = .ok (.invokestatic index, 3))
    (hpre : ∀ vm₁, s.WarmedH vm₁ → Pre ⟨T.setVm vm₁, locs, cells, slots⟩ argsL.toArray) :
    (∃ (v : Option Value) (vm₁ : Vm) (B : Pt), s.WarmedH vm₁ ∧ Stand p l e R s m args below meth c B.U B.locs B.cells B.slots ∧ Post ⟨T.setVm vm₁, locs, cells, slots⟩ argsL.toArray v B ∧
      ∀ target, Steps p.tables e below (B.U.setTop { g with pc := g.pc + 3, stack := v.toList ++ rest }) target → Steps p.tables e below (T.setTop g) target) ∨
    (∃ (q : Addr) (vm₁ : Vm) (B : Pt), s.WarmedH vm₁ ∧ Stand p l e R s m args below meth c B.U B.locs B.cells B.slots ∧ PostX ⟨T.setVm vm₁, locs, cells, slots⟩ argsL.toArray q B ∧
      Steps p.tables e below (T.setTop g) ((B.U.setTop { g with stack := rest }).pushFrame (.throwing q))) := by
  obtain ⟨mk, methM, cM, hnamed, hmethM, -, -, -, -, -, -, hsigM⟩ := Cond.codeWith_spec hcode
  have hstatic : methM.isStatic = true := Cond.static_spec hnamed hmethM hstat
  obtain ⟨kP, hkP, -⟩ := className_of_methodNamed hnamed
  have hinitP : kP.init = .initialized := Cond.initialized_spec (findClass_of_methodNamed hnamed) hkP hinit
  obtain ⟨vm₁, X₁, hstep₁⟩ := X.invokestatic hexec hown hlink hnamed hmethM hstatic hkP hinitP hy (g := g) hg (argsL := argsL) (rest := rest) (hlen _ hsigM) hstack hdg
  rcases hK m meth c ⟨T.setVm vm₁, locs, cells, slots⟩ { g with stack := rest } (.invokestatic index) mk argsL.toArray X₁ hg hsize hdg hW (X₁.named hnamed) (hpre vm₁ X₁.warmed) with ⟨v, B, X', hpost, hsteps⟩ | ⟨q, B, X', hpost, hsteps⟩
  · exact Or.inl ⟨v, vm₁, B, X₁.warmed, X', hpost, fun target h => hstep₁ _ fun acts => by rw [doInvoke_state]; exact hsteps.trans h⟩
  · exact Or.inr ⟨q, vm₁, B, X₁.warmed, X', hpost, hstep₁ _ fun acts => by rw [doInvoke_state]; exact hsteps⟩
theorem vx_callVW (X : Stand p l e R s m args below meth c T locs cells slots) (hexec : p.tables.exec = Jvm.exec) {own C : String} {index : Nat} {y : MethodName} {bytes : ByteArray} {maxL : Nat} {ret : Option FieldType} {hh : List (Nat × Nat × Nat × Nat)}
    (hown : s.vm.findClass own = some m.cls) (hlink : (Cond.methodLink own index y).before args s = true) (hinst : (Cond.instanceMethod y).before args s = true) (hsel : (Cond.selects C y y).before args s = true)
    (hcode : (Cond.codeWith y bytes maxL ret hh).before args s = true) (hy : y.cls ≠ "java/lang/invoke/MethodHandle" ∧ y.cls ≠ "java/lang/invoke/VarHandle")
    {W9 : Nat} {Pre : Pt → Array Value → Prop} {Post : Pt → Array Value → Option Value → Pt → Prop} (hK : Back l R p e below s args y 3 W9 Pre Post)
    {b : Addr} {cellB : Cell} (hcell : T.heap[b]? = some cellB) (hobj : cellB.vm.isStatics = false) (hcls : s.vm.findClass C = some cellB.cls)
    {g : JFrame} (hg : g.method = m) (hsize : g.locals.size = c.maxLocals) {argsL rest : List Value} (hlen : ∀ sig, parseMethodDescriptor y.desc = some sig → argsL.length = sig.parameters.length)
    (hstack : g.stack = argsL.reverse ++ .ref b :: rest) (hW : 2 * g.monitorRoom + (rest.map fun v => v.category).sum ≤ W9) (hdg : decode c.code g.pc = .ok (.invokevirtual index, 3))
    (hpre : ∀ vm₁, s.WarmedH vm₁ → Pre ⟨T.setVm vm₁, locs, cells, slots⟩ (Value.ref b :: argsL).toArray) :
    ∃ (v : Option Value) (vm₁ : Vm) (B : Pt), s.WarmedH vm₁ ∧ Stand p l e R s m args below meth c B.U B.locs B.cells B.slots ∧ Post ⟨T.setVm vm₁, locs, cells, slots⟩ (Value.ref b :: argsL).toArray v B ∧
      ∀ target, Steps p.tables e below (B.U.setTop { g with pc := g.pc + 3, stack := v.toList ++ rest }) target → Steps p.tables e below (T.setTop g) target := by
  obtain ⟨mk, methM, hnamed, hmethM, hstM, habM⟩ := Cond.instanceMethod_spec hinst
  obtain ⟨m8, methM', cM, hn8, hmethM', -, -, -, -, -, -, hsigM⟩ := Cond.codeWith_spec hcode
  cases Option.some.inj (hn8.symm.trans hnamed)
  cases hmethM.symm.trans hmethM'
  obtain ⟨c2, r2, m2, q1, q2, q3, q4, kP, hkP, hkPi⟩ := Cond.selects_spec hsel
  cases hcls.symm.trans q1
  cases (State.methodFound?_of_named hnamed hy).symm.trans q2
  cases hnamed.symm.trans q3
  have hselP : selectMethod e.platform s.vm cellB.cls mk = .method mk := by rw [Launch.admits_selectMethod X.admits]; exact q4
  obtain ⟨vm₁, X₁, hstep₁⟩ := X.invokevirtual hexec hown hlink hnamed hmethM hstM hkP hkPi hy (a := b) (cell := cellB) hcell
    (fun z h => by rw [h] at hobj; cases hobj) hselP hmethM habM hkP hkPi (g := g) hg (argsL := argsL) (rest := rest) (hlen _ hsigM) hstack hdg
  obtain ⟨v, B, X', hpost, hsteps⟩ := hK m meth c ⟨T.setVm vm₁, locs, cells, slots⟩ { g with stack := rest } (.invokevirtual index) mk (Value.ref b :: argsL).toArray X₁ hg hsize hdg hW (X₁.named hnamed) (hpre vm₁ X₁.warmed)
  exact ⟨v, vm₁, B, X₁.warmed, X', hpost, fun target h => hstep₁ _ fun acts => by rw [doInvoke_state]; exact hsteps.trans h⟩
abbrev vx_CVW (R : Room) (s : State) (args : Array Value) (own C : String) (index : Nat) (y : MethodName) (bytes : ByteArray) (maxL : Nat) (ret : Option FieldType) (hh : List (Nat × Nat × Nat × Nat)) (ws : List Cond) (rm : Room) (mc ms n : Nat) : Prop :=
  (rm.cells = mc ∧ rm.slots = ms ∧ rm.frames + 1 ≤ R.frames ∧ 8 + (maxL + 11) + rm.locals ≤ R.locals ∧ (∀ w ∈ ws, ∀ (a' : Array Value) (U : State), s.WarmedH U.vm → w.before a' U = true) ∧ Cond.codeWith y bytes maxL ret hh ∈ ws) ∧
  (Cond.codeWith y bytes maxL ret hh).before args s = true ∧ (Cond.initialized y.cls).before args s = true ∧ (y.cls ≠ "java/lang/invoke/MethodHandle" ∧ y.cls ≠ "java/lang/invoke/VarHandle") ∧
  (∀ sig, parseMethodDescriptor y.desc = some sig → n = sig.parameters.length) ∧ (Cond.methodLink own index y).before args s = true ∧ (Cond.instanceMethod y).before args s = true ∧ (Cond.selects C y y).before args s = true
theorem vx_cwVW {own C : String} {index maxL mc ms : Nat} {y : MethodName} {bytes : ByteArray} {ret : Option FieldType} {hh : List (Nat × Nat × Nat × Nat)} {Ts ws ws' : List Cond} {rm : Room} (n : Nat) (ht : ∀ w ∈ Ts, w.before args s = true) (hT : GoodIn Ts (wsV own index C y ws)) (hw : ws = Cond.codeWith y bytes maxL ret hh :: ws') (hrc : rm.cells = mc) (hrs : rm.slots = ms)
    (hd : y.cls = C ∧ y.cls ≠ "java/lang/invoke/MethodHandle" ∧ y.cls ≠ "java/lang/invoke/VarHandle" ∧ (parseMethodDescriptor y.desc).map (fun d => d.parameters.length) = some n) (hR : rm.frames + 1 ≤ R.frames ∧ 8 + (maxL + 11) + rm.locals ≤ R.locals) :
    vx_CVW R s args own C index y bytes maxL ret hh ws rm mc ms n := by
  obtain ⟨hC, hd⟩ := hd
  subst hC
  have ok : ∀ w ∈ wsV own index y.cls y ws, w.before args s = true := fun w h => ht w (hT w h).1
  have hG : GoodIn Ts ws := fun w h => hT w (by unfold wsV; exact List.mem_append_right _ h)
  have hc : Cond.codeWith y bytes maxL ret hh ∈ ws := by rw [hw]; exact List.mem_cons_self
  refine ⟨⟨hrc, hrs, hR.1, hR.2, pay_in ht hG, hc⟩, ht _ (hG _ hc).1, ok _ (by simp [wsV]), ⟨hd.1, hd.2.1⟩, fun sig h => ?_, ok _ (by simp [wsV]), ok _ (by simp [wsV]), ok _ (by simp [wsV])⟩
  have h2 := hd.2.2
  rw [h] at h2
  exact (Option.some.inj h2).symm
theorem vx_runVW {y : MethodName} {bytes cc : ByteArray} {maxL nL mc ms n index : Nat} {ret : Option FieldType} {hh : List (Nat × Nat × Nat × Nat)} {ws : List Cond} {rm : Room} {Pc : Array Value → State → Prop} {Qc : Array Value → State → Outcome → State → Prop} {free : Addr → Prop} {Ts : List Cond} {own C : String} {b : Addr} {As rest : List Value} {g : JFrame}
    (S : CallFix p m c cc nL s args Ts own) (hM : Met l y ws rm Pc Qc mc ms free) (cw : vx_CVW R s args own C index y bytes maxL ret hh ws rm mc ms n) (hp : PreV s H C b Pc As)
    (hg : g.method = m) (hn : As.length = n) (hsize : g.locals.size = nL) (hstack : g.stack = As.reverse ++ .ref b :: rest) (hW : 2 * g.monitorRoom + (rest.map fun v => v.category).sum ≤ 8) (hdg : decode cc g.pc = .ok (.invokevirtual index, 3)) (hf : cells + mc ≤ R.cells ∧ slots + ms ≤ R.slots) :
    va_Run p l e R s m args below meth c H locs cells slots mc ms g rest (Qc (Value.ref b :: As).toArray) free := by
  obtain ⟨⟨hrc, hrs, hfr, hlo, hws, hcw⟩, hcode, hini, hy, hlen, hl, hin, hse⟩ := cw
  have hK : Back l R p e below s args y 3 8 (PreOf R mc ms Pc) (PostOf Qc mc ms free) := va_backW (hh := hh) (bytes := bytes) (maxL := maxL) (ret := ret) hM hp.1 hrc hrs hfr hlo hws hcw (fun a' U hW => word_at hW (Or.inl (by first | rfl | simp [Cond.onTables, Cond.keeps, Cond.steady])) hini)
  obtain ⟨hx, hb, hml, ho, -⟩ := S
  obtain ⟨-, ⟨cellB, hcB, hoB, hclB⟩, hPc⟩ := hp
  intro T hT X
  obtain ⟨v, vm₁, ⟨U', l2, c2, s2⟩, hW₁, X', ⟨g', mk, t, L, e1, e2, hq, h1, hL, h2, h3⟩, st⟩ := vx_callVW X hx (C := C) (hh := hh) (bytes := bytes) (maxL := maxL) (ret := ret) ho hl hin hse hcode hy hK (by rw [hT]; exact hcB) hoB hclB hg (hsize.trans hml.symm) (argsL := As) (rest := rest) (fun sig h => hn.trans (hlen sig h)) hstack hW (by rw [hb]; exact hdg)
    (fun vm₁ hW₁ => ⟨hf.1, hf.2, hPc (T.setVm vm₁) hT hW₁⟩)
  dsimp only [Pt.U, Pt.locs, Pt.cells, Pt.slots] at X' e1 e2 h1 h2 h3 st
  subst h1; subst h2; subst h3
  exact ⟨v, (T.setVm vm₁).calling g' mk (Value.ref b :: As).toArray, t, U', L, hT, X', hL, e1, e2, hq, st⟩
section
variable {y : MethodName} {bytes cc : ByteArray} {maxL nL mc ms n index : Nat} {ret : Option FieldType} {ws : List Cond} {rm : Room} {Pc : Array Value → State → Prop} {Qc : Array Value → State → Outcome → State → Prop} {XC : String → State → State → Prop} {free : Addr → Prop} {Ts : List Cond} {own C : String} {b : Addr} {As rest : List Value} {g : JFrame}
theorem vx_runVX {hh : List (Nat × Nat × Nat × Nat)} (S : CallFix p m c cc nL s args Ts own) (hM : vx_Met l y ws rm Pc Qc XC mc ms free) (cw : vx_CVW R s args own C index y bytes maxL ret hh ws rm mc ms n) (hp : PreV s H C b Pc As)
    (hg : g.method = m) (hn : As.length = n) (hsize : g.locals.size = nL) (hstack : g.stack = As.reverse ++ .ref b :: rest) (hW : 2 * g.monitorRoom + (rest.map fun v => v.category).sum ≤ 8) (hdg : decode cc g.pc = .ok (.invokevirtual index, 3)) (hf : cells + mc ≤ R.cells ∧ slots + ms ≤ R.slots) :
    vx_Run p l e R s m args below meth c H locs cells slots mc ms g rest (Qc (Value.ref b :: As).toArray) XC free := by
  obtain ⟨⟨hrc, hrs, hfr, hlo, hws, hcw⟩, hcode, hini, hy, hlen, hl, hin, hse⟩ := cw
  have hK : vx_Back l R p e below s args y 3 8 (PreOf R mc ms Pc) (PostOf Qc mc ms free) (vx_Post XC mc ms free) := vx_backW (hh := hh) (bytes := bytes) (maxL := maxL) (ret := ret) hM hp.1 hrc hrs hfr hlo hws hcw (fun a' U hW => word_at hW (Or.inl (by first | rfl | simp [Cond.onTables, Cond.keeps, Cond.steady])) hini)
  obtain ⟨hx, hb, hml, ho, -⟩ := S
  obtain ⟨-, ⟨cellB, hcB, hoB, hclB⟩, hPc⟩ := hp
  intro T hT X
  rcases vx_callVX X hx (C := C) (hh := hh) (bytes := bytes) (maxL := maxL) (ret := ret) ho hl hin hse hcode hy hK (by rw [hT]; exact hcB) hoB hclB hg (hsize.trans hml.symm) (argsL := As) (rest := rest) (fun sig h => hn.trans (hlen sig h)) hstack hW (by rw [hb]; exact hdg)
    (fun vm₁ hW₁ => ⟨hf.1, hf.2, hPc (T.setVm vm₁) hT hW₁⟩) with ⟨v, vm₁, ⟨U', l2, c2, s2⟩, hW₁, X', ⟨g', mk, t, L, e1, e2, hq, h1, hL, h2, h3⟩, st⟩ | ⟨q, vm₁, ⟨U', l2, c2, s2⟩, hW₁, X', ⟨g', mk, t, L, E, ce, e1, e2, hq, hce, hcv, hcl, h1, hL, h2, h3⟩, st⟩
  · dsimp only [Pt.U, Pt.locs, Pt.cells, Pt.slots] at X' e1 e2 h1 h2 h3 st
    subst h1; subst h2; subst h3
    exact Or.inl ⟨v, (T.setVm vm₁).calling g' mk (Value.ref b :: As).toArray, t, U', L, hT, X', hL, e1, e2, hq, st⟩
  · dsimp only [Pt.U, Pt.locs, Pt.cells, Pt.slots] at X' e1 e2 h1 h2 h3 st hcl
    subst h1; subst h2; subst h3
    exact Or.inr ⟨q, (T.setVm vm₁).calling g' mk (Value.ref b :: As).toArray, t, U', L, E, ce, hT, X', hL, e1, e2, hq, hce, hcv, vx_cls hW₁ hcl, st⟩
theorem vx_runSX {hh : List (Nat × Nat × Nat × Nat)} (S : CallFix p m c cc nL s args Ts own) (hM : vx_Met l y ws rm Pc Qc XC mc ms free) (cw : vx_CSW R s args own index y bytes maxL ret hh ws rm mc ms n) (hp : PreS s H Pc As)
    (hg : g.method = m) (hn : As.length = n) (hsize : g.locals.size = nL) (hstack : g.stack = As.reverse ++ rest) (hW : 2 * g.monitorRoom + (rest.map fun v => v.category).sum ≤ 8) (hdg : decode cc g.pc = .ok (.invokestatic index, 3)) (hf : cells + mc ≤ R.cells ∧ slots + ms ≤ R.slots) :
    vx_Run p l e R s m args below meth c H locs cells slots mc ms g rest (Qc As.toArray) XC free := by
  obtain ⟨⟨hrc, hrs, hfr, hlo, hws, hcw⟩, hcode, hini, hy, hlen, hl, hstt⟩ := cw
  have hK : vx_Back l R p e below s args y 3 8 (PreOf R mc ms Pc) (PostOf Qc mc ms free) (vx_Post XC mc ms free) := vx_backW (hh := hh) (bytes := bytes) (maxL := maxL) (ret := ret) hM hp.1 hrc hrs hfr hlo hws hcw (fun a' U hW => word_at hW (Or.inl (by first | rfl | simp [Cond.onTables, Cond.keeps, Cond.steady])) hini)
  obtain ⟨hx, hb, hml, ho, -⟩ := S
  intro T hT X
  rcases vx_callSX X hx (hh := hh) (bytes := bytes) (maxL := maxL) (ret := ret) ho hl hstt hini hcode hy hK hg (hsize.trans hml.symm) (argsL := As) (rest := rest) (fun sig h => hn.trans (hlen sig h)) hstack hW (by rw [hb]; exact hdg)
    (fun vm₁ hW₁ => ⟨hf.1, hf.2, hp.2 (T.setVm vm₁) hT hW₁⟩) with ⟨v, vm₁, ⟨U', l2, c2, s2⟩, hW₁, X', ⟨g', mk, t, L, e1, e2, hq, h1, hL, h2, h3⟩, st⟩ | ⟨q, vm₁, ⟨U', l2, c2, s2⟩, hW₁, X', ⟨g', mk, t, L, E, ce, e1, e2, hq, hce, hcv, hcl, h1, hL, h2, h3⟩, st⟩
  · dsimp only [Pt.U, Pt.locs, Pt.cells, Pt.slots] at X' e1 e2 h1 h2 h3 st
    subst h1; subst h2; subst h3
    exact Or.inl ⟨v, (T.setVm vm₁).calling g' mk As.toArray, t, U', L, hT, X', hL, e1, e2, hq, st⟩
  · dsimp only [Pt.U, Pt.locs, Pt.cells, Pt.slots] at X' e1 e2 h1 h2 h3 st hcl
    subst h1; subst h2; subst h3
    exact Or.inr ⟨q, (T.setVm vm₁).calling g' mk As.toArray, t, U', L, E, ce, hT, X', hL, e1, e2, hq, hce, hcv, vx_cls hW₁ hcl, st⟩
end
end VXH
theorem vx_ofWH {l : Launch} {y : MethodName} {ws ws' : List Cond} {rm : Room} {Pc : Array Value → State → Prop} {Qc : Array Value → State → Outcome → State → Prop} {XC : String → State → State → Prop} {mc ms : Nat} {free : Addr → Prop} {cc : ByteArray} {maxL : Nat} {ret : Option FieldType} {hh : List (Nat × Nat × Nat × Nat)}
    (hy : plainName y.cls = true) (hw : ws = Cond.codeWith y cc maxL ret hh :: ws')
    (body : ∀ p e s m args below meth c s₁, BodyLoose p l y (headSpec ws rm) cc maxL ret e s m args below meth c s₁ → c.maxLocals = maxL → Pc args s →
      W p l e (headSpec ws rm).room s m args below meth c s.heap [] 0 0 (vx_MQ below Qc XC args s mc ms free) (entryFrame m args maxL)) : vx_Met l y ws rm Pc Qc XC mc ms free := by
  refine MetFree.of_bodyS (code := cc) (maxLocals := maxL) (ret := ret) hy ?_ ?_
  · intro args s m h hn
    obtain ⟨m9, meth, c, hn9, h1, h2, h3, h4, -, h5, h6, -⟩ := Cond.codeWith_spec (atoms_spec (ws := ws) h _ (by rw [hw]; exact List.mem_cons_self))
    cases hn.symm.trans hn9
    exact ⟨meth, c, h1, h2, h3, h4, h5, h6⟩
  · intro p e s m args below meth c s₁ B hml hP _
    have hh0 : s₁.heap = s.heap := by rw [B.state]; rfl
    obtain ⟨t, a1, o, b1, b2, b3⟩ := body p e s m args below meth c s₁ B hml hP s₁ hh0 (Stand.of_body B)
    exact ⟨t, o, a1, b1, b2, b3⟩
/-! ===== END ===== -/
end
section
def RX0 : String := "TrackNights$Machine"
def TX0 : u_T := fun k => match k with
  | 0 => ("TrackNights$Machine", "kind", "I", true)
  | 1 => ("TrackNights$Machine", "life", "I", false)
  | 2 => ("TrackNights$Machine", "worksDone", "I", false)
  | _ => ("TrackNights$Machine", "failures", "I", false)
def tyX0 : Nat → FieldType := fun k => match k with
  | 0 => .int
  | 1 => .int
  | 2 => .int
  | _ => .int
theorem nmX0 : ∀ a, a < 4 → ∀ b, b < 4 → a ≠ b → (TX0 a).2.1 ≠ (TX0 b).2.1 := by decide +kernel
theorem tyX0_ok : ∀ k, k < 4 → parseFieldDescriptor (TX0 k).2.2.1 = some (tyX0 k) := by decide +kernel
abbrev cX0_init : ByteArray := prog_2_method_1_code
def yX0_init : MethodName := ⟨RX0, "<init>", "(II)V"⟩
def RX1 : String := "TrackNights$Measure"
def TX1 : u_T := fun k => match k with
  | 0 => ("TrackNights$Measure", "track", "I", true)
  | 1 => ("TrackNights$Measure", "drift", "I", true)
  | 2 => ("TrackNights$Measure", "aligned", "Z", false)
  | _ => ("TrackNights$Measure", "written", "[LTrackNights$Values;", true)
def tyX1 : Nat → FieldType := fun k => match k with
  | 0 => .int
  | 1 => .int
  | 2 => .boolean
  | _ => .array (.object "TrackNights$Values")
theorem nmX1 : ∀ a, a < 4 → ∀ b, b < 4 → a ≠ b → (TX1 a).2.1 ≠ (TX1 b).2.1 := by decide +kernel
theorem tyX1_ok : ∀ k, k < 4 → parseFieldDescriptor (TX1 k).2.2.1 = some (tyX1 k) := by decide +kernel
abbrev cX1_init : ByteArray := prog_3_method_1_code
def yX1_init : MethodName := ⟨RX1, "<init>", "(II)V"⟩
abbrev cX1_write : ByteArray := prog_3_method_2_code
def yX1_write : MethodName := ⟨RX1, "write", "(ILTrackNights$Values;)V"⟩
abbrev cX1_says : ByteArray := prog_3_method_3_code
def yX1_says : MethodName := ⟨RX1, "says", "(I)LTrackNights$Values;"⟩
abbrev cX1_writtenOf : ByteArray := prog_3_method_4_code
def yX1_writtenOf : MethodName := ⟨RX1, "writtenOf", "(I)LTrackNights$Values;"⟩
abbrev cX1_writtenFor : ByteArray := prog_3_method_5_code
def yX1_writtenFor : MethodName := ⟨RX1, "writtenFor", "(II)LTrackNights$Values;"⟩
def RX2 : String := "TrackNights$Possession"
def TX2 : u_T := fun k => match k with
  | 0 => ("TrackNights$Possession", "track", "I", true)
  | 1 => ("TrackNights$Possession", "from", "I", true)
  | 2 => ("TrackNights$Possession", "to", "I", true)
  | 3 => ("TrackNights$Possession", "day", "I", true)
  | 4 => ("TrackNights$Possession", "hours", "I", true)
  | 5 => ("TrackNights$Possession", "works", "Ljava/util/ArrayList;", true)
  | 6 => ("TrackNights$Possession", "state", "I", false)
  | 7 => ("TrackNights$Possession", "firstMarked", "Z", false)
  | 8 => ("TrackNights$Possession", "secondMarked", "Z", false)
  | _ => ("TrackNights$Possession", "overrun", "I", false)
def tyX2 : Nat → FieldType := fun k => match k with
  | 0 => .int
  | 1 => .int
  | 2 => .int
  | 3 => .int
  | 4 => .int
  | 5 => .object "java/util/ArrayList"
  | 6 => .int
  | 7 => .boolean
  | 8 => .boolean
  | _ => .int
theorem nmX2 : ∀ a, a < 10 → ∀ b, b < 10 → a ≠ b → (TX2 a).2.1 ≠ (TX2 b).2.1 := by decide +kernel
theorem tyX2_ok : ∀ k, k < 10 → parseFieldDescriptor (TX2 k).2.2.1 = some (tyX2 k) := by decide +kernel
abbrev cX2_init : ByteArray := prog_4_method_1_code
def yX2_init : MethodName := ⟨RX2, "<init>", "(IIIII)V"⟩
abbrev cX2_has : ByteArray := prog_4_method_2_code
def yX2_has : MethodName := ⟨RX2, "has", "(I)Z"⟩
abbrev cX2_meets : ByteArray := prog_4_method_3_code
def yX2_meets : MethodName := ⟨RX2, "meets", "(III)Z"⟩
abbrev cX2_isComingOrTaken : ByteArray := prog_4_method_4_code
def yX2_isComingOrTaken : MethodName := ⟨RX2, "isComingOrTaken", "()Z"⟩
abbrev cX2_isMarked : ByteArray := prog_4_method_5_code
def yX2_isMarked : MethodName := ⟨RX2, "isMarked", "(I)Z"⟩
abbrev cX2_putMark : ByteArray := prog_4_method_6_code
def yX2_putMark : MethodName := ⟨RX2, "putMark", "(I)V"⟩
abbrev cX2_marks : ByteArray := prog_4_method_7_code
def yX2_marks : MethodName := ⟨RX2, "marks", "()I"⟩
abbrev cX2_uses : ByteArray := prog_4_method_8_code
def yX2_uses : MethodName := ⟨RX2, "uses", "(LTrackNights$Machine;)Z"⟩
abbrev cX2_hoursPlanned : ByteArray := prog_4_method_9_code
def yX2_hoursPlanned : MethodName := ⟨RX2, "hoursPlanned", "()I"⟩
abbrev cX2_hoursTakenBy : ByteArray := prog_4_method_10_code
def yX2_hoursTakenBy : MethodName := ⟨RX2, "hoursTakenBy", "(LTrackNights$Machine;)I"⟩
def RX3 : String := "TrackNights$Section"
def TX3 : u_T := fun k => match k with
  | 0 => ("TrackNights$Section", "values", "LTrackNights$Values;", true)
  | 1 => ("TrackNights$Section", "tamps", "I", false)
  | 2 => ("TrackNights$Section", "free", "I", false)
  | 3 => ("TrackNights$Section", "curve", "Z", false)
  | _ => ("TrackNights$Section", "sign", "I", false)
def tyX3 : Nat → FieldType := fun k => match k with
  | 0 => .object "TrackNights$Values"
  | 1 => .int
  | 2 => .int
  | 3 => .boolean
  | _ => .int
theorem nmX3 : ∀ a, a < 5 → ∀ b, b < 5 → a ≠ b → (TX3 a).2.1 ≠ (TX3 b).2.1 := by decide +kernel
theorem tyX3_ok : ∀ k, k < 5 → parseFieldDescriptor (TX3 k).2.2.1 = some (tyX3 k) := by decide +kernel
abbrev cX3_init : ByteArray := prog_5_method_1_code
def yX3_init : MethodName := ⟨RX3, "<init>", "()V"⟩
abbrev cX3_become : ByteArray := prog_5_method_2_code
def yX3_become : MethodName := ⟨RX3, "become", "(LTrackNights$Section;)V"⟩
abbrev cX3_trueSpeed : ByteArray := prog_5_method_3_code
def yX3_trueSpeed : MethodName := ⟨RX3, "trueSpeed", "(I)I"⟩
abbrev cX3_isRisk : ByteArray := prog_5_method_4_code
def yX3_isRisk : MethodName := ⟨RX3, "isRisk", "(I)Z"⟩
abbrev cX3_bearDay : ByteArray := prog_5_method_5_code
def yX3_bearDay : MethodName := ⟨RX3, "bearDay", "(I)V"⟩
abbrev cX3_crackGrowth : ByteArray := prog_5_method_6_code
def yX3_crackGrowth : MethodName := ⟨RX3, "crackGrowth", "()I"⟩
abbrev cX3_hoursFor : ByteArray := prog_5_method_7_code
def yX3_hoursFor : MethodName := ⟨RX3, "hoursFor", "(I)I"⟩
abbrev cX3_treat : ByteArray := prog_5_method_8_code
def yX3_treat : MethodName := ⟨RX3, "treat", "(II)V"⟩
def RX4 : String := "TrackNights$Values"
def TX4 : u_T := fun k => match k with
  | 0 => ("TrackNights$Values", "wear", "I", false)
  | 1 => ("TrackNights$Values", "crack", "I", false)
  | _ => ("TrackNights$Values", "settle", "I", false)
def tyX4 : Nat → FieldType := fun k => match k with
  | 0 => .int
  | 1 => .int
  | _ => .int
theorem nmX4 : ∀ a, a < 3 → ∀ b, b < 3 → a ≠ b → (TX4 a).2.1 ≠ (TX4 b).2.1 := by decide +kernel
theorem tyX4_ok : ∀ k, k < 3 → parseFieldDescriptor (TX4 k).2.2.1 = some (tyX4 k) := by decide +kernel
abbrev cX4_init : ByteArray := prog_6_method_1_code
def yX4_init : MethodName := ⟨RX4, "<init>", "(III)V"⟩
abbrev cX4_speed : ByteArray := prog_6_method_2_code
def yX4_speed : MethodName := ⟨RX4, "speed", "(I)I"⟩
abbrev cX4_decider : ByteArray := prog_6_method_3_code
def yX4_decider : MethodName := ⟨RX4, "decider", "(I)I"⟩
abbrev cX4_speedByWear : ByteArray := prog_6_method_4_code
def yX4_speedByWear : MethodName := ⟨RX4, "speedByWear", "()I"⟩
abbrev cX4_speedByCrack : ByteArray := prog_6_method_5_code
def yX4_speedByCrack : MethodName := ⟨RX4, "speedByCrack", "()I"⟩
abbrev cX4_speedBySettle : ByteArray := prog_6_method_6_code
def yX4_speedBySettle : MethodName := ⟨RX4, "speedBySettle", "()I"⟩
abbrev cX4_speedByHeat : ByteArray := prog_6_method_7_code
def yX4_speedByHeat : MethodName := ⟨RX4, "speedByHeat", "(I)I"⟩
def RX5 : String := "TrackNights$Work"
def TX5 : u_T := fun k => match k with
  | 0 => ("TrackNights$Work", "section", "LTrackNights$Section;", true)
  | 1 => ("TrackNights$Work", "machine", "LTrackNights$Machine;", true)
  | _ => ("TrackNights$Work", "hours", "I", true)
def tyX5 : Nat → FieldType := fun k => match k with
  | 0 => .object "TrackNights$Section"
  | 1 => .object "TrackNights$Machine"
  | _ => .int
theorem nmX5 : ∀ a, a < 3 → ∀ b, b < 3 → a ≠ b → (TX5 a).2.1 ≠ (TX5 b).2.1 := by decide +kernel
theorem tyX5_ok : ∀ k, k < 3 → parseFieldDescriptor (TX5 k).2.2.1 = some (tyX5 k) := by decide +kernel
abbrev cX5_init : ByteArray := prog_7_method_1_code
def yX5_init : MethodName := ⟨RX5, "<init>", "(LTrackNights$Section;LTrackNights$Machine;I)V"⟩
def RX6 : String := "TrackNights"
def TX6 : u_T := fun k => match k with
  | 0 => ("TrackNights", "sections", "[LTrackNights$Section;", true)
  | 1 => ("TrackNights", "measures", "Ljava/util/ArrayList;", true)
  | 2 => ("TrackNights", "machines", "Ljava/util/ArrayList;", true)
  | 3 => ("TrackNights", "possessions", "Ljava/util/ArrayList;", true)
  | 4 => ("TrackNights", "unknown", "LTrackNights$Values;", true)
  | 5 => ("TrackNights", "trial", "LTrackNights$Section;", true)
  | 6 => ("TrackNights", "today", "I", false)
  | 7 => ("TrackNights", "heatNow", "I", false)
  | 8 => ("TrackNights", "cost", "I", false)
  | 9 => ("TrackNights", "risks", "I", false)
  | 10 => ("TrackNights", "breaks", "I", false)
  | 11 => ("TrackNights", "unsafeGangs", "I", false)
  | _ => ("TrackNights", "overruns", "I", false)
def tyX6 : Nat → FieldType := fun k => match k with
  | 0 => .array (.object "TrackNights$Section")
  | 1 => .object "java/util/ArrayList"
  | 2 => .object "java/util/ArrayList"
  | 3 => .object "java/util/ArrayList"
  | 4 => .object "TrackNights$Values"
  | 5 => .object "TrackNights$Section"
  | 6 => .int
  | 7 => .int
  | 8 => .int
  | 9 => .int
  | 10 => .int
  | 11 => .int
  | _ => .int
theorem nmX6 : ∀ a, a < 13 → ∀ b, b < 13 → a ≠ b → (TX6 a).2.1 ≠ (TX6 b).2.1 := by decide +kernel
theorem tyX6_ok : ∀ k, k < 13 → parseFieldDescriptor (TX6 k).2.2.1 = some (tyX6 k) := by decide +kernel
abbrev cX6_init : ByteArray := prog_1_method_1_code
def yX6_init : MethodName := ⟨RX6, "<init>", "()V"⟩
abbrev cX6_curve : ByteArray := prog_1_method_2_code
def yX6_curve : MethodName := ⟨RX6, "curve", "(IZ)Z"⟩
abbrev cX6_sign : ByteArray := prog_1_method_3_code
def yX6_sign : MethodName := ⟨RX6, "sign", "(II)I"⟩
abbrev cX6_pass : ByteArray := prog_1_method_4_code
def yX6_pass : MethodName := ⟨RX6, "pass", "(III)I"⟩
abbrev cX6_measure : ByteArray := prog_1_method_5_code
def yX6_measure : MethodName := ⟨RX6, "measure", "(IIII)I"⟩
abbrev cX6_align : ByteArray := prog_1_method_6_code
def yX6_align : MethodName := ⟨RX6, "align", "(I)I"⟩
abbrev cX6_machine : ByteArray := prog_1_method_7_code
def yX6_machine : MethodName := ⟨RX6, "machine", "(II)I"⟩
abbrev cX6_service : ByteArray := prog_1_method_8_code
def yX6_service : MethodName := ⟨RX6, "service", "(I)I"⟩
abbrev cX6_book : ByteArray := prog_1_method_9_code
def yX6_book : MethodName := ⟨RX6, "book", "(IIIII)I"⟩
abbrev cX6_work : ByteArray := prog_1_method_10_code
def yX6_work : MethodName := ⟨RX6, "work", "(III)I"⟩
abbrev cX6_cancel : ByteArray := prog_1_method_11_code
def yX6_cancel : MethodName := ⟨RX6, "cancel", "(I)I"⟩
abbrev cX6_mark : ByteArray := prog_1_method_12_code
def yX6_mark : MethodName := ⟨RX6, "mark", "(II)I"⟩
abbrev cX6_take : ByteArray := prog_1_method_13_code
def yX6_take : MethodName := ⟨RX6, "take", "(I)I"⟩
abbrev cX6_giveBack : ByteArray := prog_1_method_14_code
def yX6_giveBack : MethodName := ⟨RX6, "giveBack", "(I)I"⟩
abbrev cX6_walk : ByteArray := prog_1_method_15_code
def yX6_walk : MethodName := ⟨RX6, "walk", "(II)Z"⟩
abbrev cX6_ofSection : ByteArray := prog_1_method_16_code
def yX6_ofSection : MethodName := ⟨RX6, "ofSection", "(II)I"⟩
abbrev cX6_known : ByteArray := prog_1_method_17_code
def yX6_known : MethodName := ⟨RX6, "known", "(II)I"⟩
abbrev cX6_why : ByteArray := prog_1_method_18_code
def yX6_why : MethodName := ⟨RX6, "why", "(IZ)I"⟩
abbrev cX6_ofMachine : ByteArray := prog_1_method_19_code
def yX6_ofMachine : MethodName := ⟨RX6, "ofMachine", "(II)I"⟩
abbrev cX6_ofPossession : ByteArray := prog_1_method_20_code
def yX6_ofPossession : MethodName := ⟨RX6, "ofPossession", "(II)I"⟩
abbrev cX6_many : ByteArray := prog_1_method_21_code
def yX6_many : MethodName := ⟨RX6, "many", "(I)I"⟩
abbrev cX6_meanWear : ByteArray := prog_1_method_22_code
def yX6_meanWear : MethodName := ⟨RX6, "meanWear", "(I)D"⟩
abbrev cX6_couldSee : ByteArray := prog_1_method_23_code
def yX6_couldSee : MethodName := ⟨RX6, "couldSee", "(I)I"⟩
abbrev cX6_firstRisk : ByteArray := prog_1_method_24_code
def yX6_firstRisk : MethodName := ⟨RX6, "firstRisk", "(II)I"⟩
abbrev cX6_bestWork : ByteArray := prog_1_method_25_code
def yX6_bestWork : MethodName := ⟨RX6, "bestWork", "(III)I"⟩
abbrev cX6_freeDay : ByteArray := prog_1_method_26_code
def yX6_freeDay : MethodName := ⟨RX6, "freeDay", "(III)I"⟩
abbrev cX6_wouldOverrun : ByteArray := prog_1_method_27_code
def yX6_wouldOverrun : MethodName := ⟨RX6, "wouldOverrun", "(I)I"⟩
abbrev cX6_digest : ByteArray := prog_1_method_28_code
def yX6_digest : MethodName := ⟨RX6, "digest", "()J"⟩
abbrev cX6_digestSection : ByteArray := prog_1_method_29_code
def yX6_digestSection : MethodName := ⟨RX6, "digestSection", "(JI)J"⟩
abbrev cX6_checkSection : ByteArray := prog_1_method_30_code
def yX6_checkSection : MethodName := ⟨RX6, "checkSection", "(I)V"⟩
abbrev cX6_sectionAt : ByteArray := prog_1_method_31_code
def yX6_sectionAt : MethodName := ⟨RX6, "sectionAt", "(I)LTrackNights$Section;"⟩
abbrev cX6_machineAt : ByteArray := prog_1_method_32_code
def yX6_machineAt : MethodName := ⟨RX6, "machineAt", "(I)LTrackNights$Machine;"⟩
abbrev cX6_possessionAt : ByteArray := prog_1_method_33_code
def yX6_possessionAt : MethodName := ⟨RX6, "possessionAt", "(I)LTrackNights$Possession;"⟩
abbrev cX6_checkStretch : ByteArray := prog_1_method_34_code
def yX6_checkStretch : MethodName := ⟨RX6, "checkStretch", "(III)V"⟩
abbrev cX6_checkTrains : ByteArray := prog_1_method_35_code
def yX6_checkTrains : MethodName := ⟨RX6, "checkTrains", "(I)V"⟩
abbrev cX6_passDay : ByteArray := prog_1_method_36_code
def yX6_passDay : MethodName := ⟨RX6, "passDay", "(II)V"⟩
abbrev cX6_endNightsOf : ByteArray := prog_1_method_37_code
def yX6_endNightsOf : MethodName := ⟨RX6, "endNightsOf", "(I)V"⟩
abbrev cX6_breakIfCracked : ByteArray := prog_1_method_38_code
def yX6_breakIfCracked : MethodName := ⟨RX6, "breakIfCracked", "(LTrackNights$Section;)V"⟩
abbrev cX6_delayCost : ByteArray := prog_1_method_39_code
def yX6_delayCost : MethodName := ⟨RX6, "delayCost", "(II)I"⟩
abbrev cX6_knowingMeasure : ByteArray := prog_1_method_40_code
def yX6_knowingMeasure : MethodName := ⟨RX6, "knowingMeasure", "(I)I"⟩
abbrev cX6_knownValues : ByteArray := prog_1_method_41_code
def yX6_knownValues : MethodName := ⟨RX6, "knownValues", "(I)LTrackNights$Values;"⟩
abbrev cX6_isOut : ByteArray := prog_1_method_42_code
def yX6_isOut : MethodName := ⟨RX6, "isOut", "(LTrackNights$Machine;)Z"⟩
abbrev cX6_isElsewhere : ByteArray := prog_1_method_43_code
def yX6_isElsewhere : MethodName := ⟨RX6, "isElsewhere", "(LTrackNights$Machine;LTrackNights$Possession;)Z"⟩
abbrev cX6_isFree : ByteArray := prog_1_method_44_code
def yX6_isFree : MethodName := ⟨RX6, "isFree", "(IIII)Z"⟩
abbrev cX6_isTaken : ByteArray := prog_1_method_45_code
def yX6_isTaken : MethodName := ⟨RX6, "isTaken", "(I)Z"⟩
abbrev cX6_signBeside : ByteArray := prog_1_method_46_code
def yX6_signBeside : MethodName := ⟨RX6, "signBeside", "(I)I"⟩
abbrev cX6_isWarned : ByteArray := prog_1_method_47_code
def yX6_isWarned : MethodName := ⟨RX6, "isWarned", "(III)Z"⟩
abbrev cX6_endNight : ByteArray := prog_1_method_48_code
def yX6_endNight : MethodName := ⟨RX6, "endNight", "(LTrackNights$Possession;I)V"⟩
abbrev cX6_carryOut : ByteArray := prog_1_method_49_code
def yX6_carryOut : MethodName := ⟨RX6, "carryOut", "(LTrackNights$Work;)V"⟩
abbrev cX6_hoursTaken : ByteArray := prog_1_method_50_code
def yX6_hoursTaken : MethodName := ⟨RX6, "hoursTaken", "(LTrackNights$Possession;)I"⟩
abbrev cX6_costBehind : ByteArray := prog_1_method_51_code
def yX6_costBehind : MethodName := ⟨RX6, "costBehind", "(LTrackNights$Section;III)I"⟩
abbrev cX6_countAligned : ByteArray := prog_1_method_52_code
def yX6_countAligned : MethodName := ⟨RX6, "countAligned", "()I"⟩
abbrev cX6_countPossessions : ByteArray := prog_1_method_53_code
def yX6_countPossessions : MethodName := ⟨RX6, "countPossessions", "(I)I"⟩
abbrev cX6_countTrueRisks : ByteArray := prog_1_method_54_code
def yX6_countTrueRisks : MethodName := ⟨RX6, "countTrueRisks", "()I"⟩
abbrev cX6_countKnownRisks : ByteArray := prog_1_method_55_code
def yX6_countKnownRisks : MethodName := ⟨RX6, "countKnownRisks", "()I"⟩
def RX7 : String := "TrackNightsModel"
def TX7 : u_T := fun k => match k with
  | 0 => ("TrackNightsModel", "thrown", "I", false)
  | 1 => ("TrackNightsModel", "sections", "[[I", true)
  | 2 => ("TrackNightsModel", "machines", "Ljava/util/ArrayList;", true)
  | 3 => ("TrackNightsModel", "nights", "Ljava/util/ArrayList;", true)
  | 4 => ("TrackNightsModel", "measures", "Ljava/util/ArrayList;", true)
  | 5 => ("TrackNightsModel", "day", "I", false)
  | 6 => ("TrackNightsModel", "heat", "I", false)
  | 7 => ("TrackNightsModel", "cost", "I", false)
  | 8 => ("TrackNightsModel", "risks", "I", false)
  | 9 => ("TrackNightsModel", "broke", "I", false)
  | 10 => ("TrackNightsModel", "\x75nsafe", "I", false)
  | _ => ("TrackNightsModel", "sum", "J", false)
def tyX7 : Nat → FieldType := fun k => match k with
  | 0 => .int
  | 1 => .array (.array .int)
  | 2 => .object "java/util/ArrayList"
  | 3 => .object "java/util/ArrayList"
  | 4 => .object "java/util/ArrayList"
  | 5 => .int
  | 6 => .int
  | 7 => .int
  | 8 => .int
  | 9 => .int
  | 10 => .int
  | _ => .long
theorem nmX7 : ∀ a, a < 12 → ∀ b, b < 12 → a ≠ b → (TX7 a).2.1 ≠ (TX7 b).2.1 := by decide +kernel
theorem tyX7_ok : ∀ k, k < 12 → parseFieldDescriptor (TX7 k).2.2.1 = some (tyX7 k) := by decide +kernel
abbrev cX7_init : ByteArray := prog_9_method_1_code
def yX7_init : MethodName := ⟨RX7, "<init>", "()V"⟩
abbrev cX7_thrown : ByteArray := prog_9_method_2_code
def yX7_thrown : MethodName := ⟨RX7, "thrown", "()I"⟩
abbrev cX7_refuse : ByteArray := prog_9_method_3_code
def yX7_refuse : MethodName := ⟨RX7, "refuse", "(I)I"⟩
abbrev cX7_is : ByteArray := prog_9_method_4_code
def yX7_is : MethodName := ⟨RX7, "is", "(III)Z"⟩
abbrev cX7_bears : ByteArray := prog_9_method_5_code
def yX7_bears : MethodName := ⟨RX7, "bears", "([III)I"⟩
abbrev cX7_speedOf : ByteArray := prog_9_method_6_code
def yX7_speedOf : MethodName := ⟨RX7, "speedOf", "([II)I"⟩
abbrev cX7_whyOf : ByteArray := prog_9_method_7_code
def yX7_whyOf : MethodName := ⟨RX7, "whyOf", "([II)I"⟩
abbrev cX7_knownOf : ByteArray := prog_9_method_8_code
def yX7_knownOf : MethodName := ⟨RX7, "knownOf", "(I)[I"⟩
abbrev cX7_knownBy : ByteArray := prog_9_method_9_code
def yX7_knownBy : MethodName := ⟨RX7, "knownBy", "(I)I"⟩
abbrev cX7_isSection : ByteArray := prog_9_method_10_code
def yX7_isSection : MethodName := ⟨RX7, "isSection", "(I)Z"⟩
abbrev cX7_curve : ByteArray := prog_9_method_11_code
def yX7_curve : MethodName := ⟨RX7, "curve", "(IZ)Z"⟩
abbrev cX7_sign : ByteArray := prog_9_method_12_code
def yX7_sign : MethodName := ⟨RX7, "sign", "(II)I"⟩
abbrev cX7_age : ByteArray := prog_9_method_13_code
def yX7_age : MethodName := ⟨RX7, "age", "([II)V"⟩
abbrev cX7_pass : ByteArray := prog_9_method_14_code
def yX7_pass : MethodName := ⟨RX7, "pass", "(II)I"⟩
abbrev cX7_isTrains : ByteArray := prog_9_method_15_code
def yX7_isTrains : MethodName := ⟨RX7, "isTrains", "(I)Z"⟩
abbrev cX7_pass_ : ByteArray := prog_9_method_16_code
def yX7_pass_ : MethodName := ⟨RX7, "pass", "(III)I"⟩
abbrev cX7_isPart : ByteArray := prog_9_method_17_code
def yX7_isPart : MethodName := ⟨RX7, "isPart", "(III)Z"⟩
abbrev cX7_measure : ByteArray := prog_9_method_18_code
def yX7_measure : MethodName := ⟨RX7, "measure", "(IIII)I"⟩
abbrev cX7_align : ByteArray := prog_9_method_19_code
def yX7_align : MethodName := ⟨RX7, "align", "(I)I"⟩
abbrev cX7_isMachine : ByteArray := prog_9_method_20_code
def yX7_isMachine : MethodName := ⟨RX7, "isMachine", "(I)Z"⟩
abbrev cX7_isNight : ByteArray := prog_9_method_21_code
def yX7_isNight : MethodName := ⟨RX7, "isNight", "(I)Z"⟩
abbrev cX7_machine : ByteArray := prog_9_method_22_code
def yX7_machine : MethodName := ⟨RX7, "machine", "(II)I"⟩
abbrev cX7_uses : ByteArray := prog_9_method_23_code
def yX7_uses : MethodName := ⟨RX7, "uses", "([II)Z"⟩
abbrev cX7_service : ByteArray := prog_9_method_24_code
def yX7_service : MethodName := ⟨RX7, "service", "(I)I"⟩
abbrev cX7_isFree : ByteArray := prog_9_method_25_code
def yX7_isFree : MethodName := ⟨RX7, "isFree", "(IIII)Z"⟩
abbrev cX7_book : ByteArray := prog_9_method_26_code
def yX7_book : MethodName := ⟨RX7, "book", "(IIIII)I"⟩
abbrev cX7_has : ByteArray := prog_9_method_27_code
def yX7_has : MethodName := ⟨RX7, "has", "([II)Z"⟩
abbrev cX7_hours : ByteArray := prog_9_method_28_code
def yX7_hours : MethodName := ⟨RX7, "hours", "(II)I"⟩
abbrev cX7_work : ByteArray := prog_9_method_29_code
def yX7_work : MethodName := ⟨RX7, "work", "(III)I"⟩
abbrev cX7_cancel : ByteArray := prog_9_method_30_code
def yX7_cancel : MethodName := ⟨RX7, "cancel", "(I)I"⟩
abbrev cX7_mark : ByteArray := prog_9_method_31_code
def yX7_mark : MethodName := ⟨RX7, "mark", "(II)I"⟩
abbrev cX7_take : ByteArray := prog_9_method_32_code
def yX7_take : MethodName := ⟨RX7, "take", "(I)I"⟩
abbrev cX7_took : ByteArray := prog_9_method_33_code
def yX7_took : MethodName := ⟨RX7, "took", "([I[I)I"⟩
abbrev cX7_lives : ByteArray := prog_9_method_34_code
def yX7_lives : MethodName := ⟨RX7, "lives", "()[I"⟩
abbrev cX7_treat : ByteArray := prog_9_method_35_code
def yX7_treat : MethodName := ⟨RX7, "treat", "([III)V"⟩
abbrev cX7_give : ByteArray := prog_9_method_36_code
def yX7_give : MethodName := ⟨RX7, "give", "([II)I"⟩
abbrev cX7_giveBack : ByteArray := prog_9_method_37_code
def yX7_giveBack : MethodName := ⟨RX7, "giveBack", "(I)I"⟩
abbrev cX7_isTaken : ByteArray := prog_9_method_38_code
def yX7_isTaken : MethodName := ⟨RX7, "isTaken", "(I)Z"⟩
abbrev cX7_walk : ByteArray := prog_9_method_39_code
def yX7_walk : MethodName := ⟨RX7, "walk", "(II)Z"⟩
abbrev cX7_ofSectionNow : ByteArray := prog_9_method_40_code
def yX7_ofSectionNow : MethodName := ⟨RX7, "ofSectionNow", "(II)I"⟩
abbrev cX7_ofSection : ByteArray := prog_9_method_41_code
def yX7_ofSection : MethodName := ⟨RX7, "ofSection", "(II)I"⟩
abbrev cX7_knownNow : ByteArray := prog_9_method_42_code
def yX7_knownNow : MethodName := ⟨RX7, "knownNow", "(II)I"⟩
abbrev cX7_known : ByteArray := prog_9_method_43_code
def yX7_known : MethodName := ⟨RX7, "known", "(II)I"⟩
abbrev cX7_whyNow : ByteArray := prog_9_method_44_code
def yX7_whyNow : MethodName := ⟨RX7, "whyNow", "(IZ)I"⟩
abbrev cX7_why : ByteArray := prog_9_method_45_code
def yX7_why : MethodName := ⟨RX7, "why", "(IZ)I"⟩
abbrev cX7_ofMachine : ByteArray := prog_9_method_46_code
def yX7_ofMachine : MethodName := ⟨RX7, "ofMachine", "(II)I"⟩
abbrev cX7_ofNightNow : ByteArray := prog_9_method_47_code
def yX7_ofNightNow : MethodName := ⟨RX7, "ofNightNow", "(II)I"⟩
abbrev cX7_ofPossession : ByteArray := prog_9_method_48_code
def yX7_ofPossession : MethodName := ⟨RX7, "ofPossession", "(II)I"⟩
abbrev cX7_manyNow : ByteArray := prog_9_method_49_code
def yX7_manyNow : MethodName := ⟨RX7, "manyNow", "(I)I"⟩
abbrev cX7_many : ByteArray := prog_9_method_50_code
def yX7_many : MethodName := ⟨RX7, "many", "(I)I"⟩
abbrev cX7_meanWear : ByteArray := prog_9_method_51_code
def yX7_meanWear : MethodName := ⟨RX7, "meanWear", "(I)D"⟩
abbrev cX7_seeNow : ByteArray := prog_9_method_52_code
def yX7_seeNow : MethodName := ⟨RX7, "seeNow", "(I)I"⟩
abbrev cX7_couldSee : ByteArray := prog_9_method_53_code
def yX7_couldSee : MethodName := ⟨RX7, "couldSee", "(I)I"⟩
abbrev cX7_riskNow : ByteArray := prog_9_method_54_code
def yX7_riskNow : MethodName := ⟨RX7, "riskNow", "(II)I"⟩
abbrev cX7_firstRisk : ByteArray := prog_9_method_55_code
def yX7_firstRisk : MethodName := ⟨RX7, "firstRisk", "(II)I"⟩
abbrev cX7_costOf : ByteArray := prog_9_method_56_code
def yX7_costOf : MethodName := ⟨RX7, "costOf", "(IIII)I"⟩
abbrev cX7_bestNow : ByteArray := prog_9_method_57_code
def yX7_bestNow : MethodName := ⟨RX7, "bestNow", "(III)I"⟩
abbrev cX7_bestWork : ByteArray := prog_9_method_58_code
def yX7_bestWork : MethodName := ⟨RX7, "bestWork", "(III)I"⟩
abbrev cX7_freeNow : ByteArray := prog_9_method_59_code
def yX7_freeNow : MethodName := ⟨RX7, "freeNow", "(III)I"⟩
abbrev cX7_freeDay : ByteArray := prog_9_method_60_code
def yX7_freeDay : MethodName := ⟨RX7, "freeDay", "(III)I"⟩
abbrev cX7_wouldOverrun : ByteArray := prog_9_method_61_code
def yX7_wouldOverrun : MethodName := ⟨RX7, "wouldOverrun", "(I)I"⟩
abbrev cX7_add : ByteArray := prog_9_method_62_code
def yX7_add : MethodName := ⟨RX7, "add", "(I)V"⟩
abbrev cX7_digest : ByteArray := prog_9_method_63_code
def yX7_digest : MethodName := ⟨RX7, "digest", "()J"⟩
def RJx145de : String := "java/io/Serializable"
def TJx145de : u_T := fun k => match k with
  | _ => ("", "", "", false)
def tyJx145de : Nat → FieldType := fun k => match k with
  | _ => .int
theorem nmJx145de : ∀ a, a < 0 → ∀ b, b < 0 → a ≠ b → (TJx145de a).2.1 ≠ (TJx145de b).2.1 := by decide +kernel
theorem tyJx145de_ok : ∀ k, k < 0 → parseFieldDescriptor (TJx145de k).2.2.1 = some (tyJx145de k) := by decide +kernel
def RJx8e188 : String := "java/lang/Cloneable"
def TJx8e188 : u_T := fun k => match k with
  | _ => ("", "", "", false)
def tyJx8e188 : Nat → FieldType := fun k => match k with
  | _ => .int
theorem nmJx8e188 : ∀ a, a < 0 → ∀ b, b < 0 → a ≠ b → (TJx8e188 a).2.1 ≠ (TJx8e188 b).2.1 := by decide +kernel
theorem tyJx8e188_ok : ∀ k, k < 0 → parseFieldDescriptor (TJx8e188 k).2.2.1 = some (tyJx8e188 k) := by decide +kernel
def RJ6 : String := "java/lang/Integer"
def TJ6 : u_T := fun k => match k with
  | _ => ("", "", "", false)
def tyJ6 : Nat → FieldType := fun k => match k with
  | _ => .int
theorem nmJ6 : ∀ a, a < 0 → ∀ b, b < 0 → a ≠ b → (TJ6 a).2.1 ≠ (TJ6 b).2.1 := by decide +kernel
theorem tyJ6_ok : ∀ k, k < 0 → parseFieldDescriptor (TJ6 k).2.2.1 = some (tyJ6 k) := by decide +kernel
abbrev cJ6_bitCount_0f7a4 : ByteArray := prog_16_method_49_code
def yJ6_bitCount_0f7a4 : MethodName := ⟨RJ6, "bitCount", "(I)I"⟩
def RJxab1ab : String := "java/lang/Iterable"
def TJxab1ab : u_T := fun k => match k with
  | _ => ("", "", "", false)
def tyJxab1ab : Nat → FieldType := fun k => match k with
  | _ => .int
theorem nmJxab1ab : ∀ a, a < 0 → ∀ b, b < 0 → a ≠ b → (TJxab1ab a).2.1 ≠ (TJxab1ab b).2.1 := by decide +kernel
theorem tyJxab1ab_ok : ∀ k, k < 0 → parseFieldDescriptor (TJxab1ab k).2.2.1 = some (tyJxab1ab k) := by decide +kernel
def RJ9 : String := "java/lang/Math"
def TJ9 : u_T := fun k => match k with
  | _ => ("", "", "", false)
def tyJ9 : Nat → FieldType := fun k => match k with
  | _ => .int
theorem nmJ9 : ∀ a, a < 0 → ∀ b, b < 0 → a ≠ b → (TJ9 a).2.1 ≠ (TJ9 b).2.1 := by decide +kernel
theorem tyJ9_ok : ∀ k, k < 0 → parseFieldDescriptor (TJ9 k).2.2.1 = some (tyJ9 k) := by decide +kernel
abbrev cJ9_max_7cf53 : ByteArray := prog_18_method_65_code
def yJ9_max_7cf53 : MethodName := ⟨RJ9, "max", "(II)I"⟩
abbrev cJ9_min_7cf53 : ByteArray := prog_18_method_69_code
def yJ9_min_7cf53 : MethodName := ⟨RJ9, "min", "(II)I"⟩
def RJ0 : String := "java/lang/String"
def TJ0 : u_T := fun k => match k with
  | _ => ("", "", "", false)
def tyJ0 : Nat → FieldType := fun k => match k with
  | _ => .int
theorem nmJ0 : ∀ a, a < 0 → ∀ b, b < 0 → a ≠ b → (TJ0 a).2.1 ≠ (TJ0 b).2.1 := by decide +kernel
theorem tyJ0_ok : ∀ k, k < 0 → parseFieldDescriptor (TJ0 k).2.2.1 = some (tyJ0 k) := by decide +kernel
def RJ10 : String := "java/lang/System"
def TJ10 : u_T := fun k => match k with
  | _ => ("", "", "", false)
def tyJ10 : Nat → FieldType := fun k => match k with
  | _ => .int
theorem nmJ10 : ∀ a, a < 0 → ∀ b, b < 0 → a ≠ b → (TJ10 a).2.1 ≠ (TJ10 b).2.1 := by decide +kernel
theorem tyJ10_ok : ∀ k, k < 0 → parseFieldDescriptor (TJ10 k).2.2.1 = some (tyJ10 k) := by decide +kernel
def RJxa1e45 : String := "java/util/AbstractCollection"
def TJxa1e45 : u_T := fun k => match k with
  | _ => ("", "", "", false)
def tyJxa1e45 : Nat → FieldType := fun k => match k with
  | _ => .int
theorem nmJxa1e45 : ∀ a, a < 0 → ∀ b, b < 0 → a ≠ b → (TJxa1e45 a).2.1 ≠ (TJxa1e45 b).2.1 := by decide +kernel
theorem tyJxa1e45_ok : ∀ k, k < 0 → parseFieldDescriptor (TJxa1e45 k).2.2.1 = some (tyJxa1e45 k) := by decide +kernel
abbrev cJxa1e45_init_da8c8 : ByteArray := prog_23_method_1_code
def yJxa1e45_init_da8c8 : MethodName := ⟨RJxa1e45, "<init>", "()V"⟩
def RJxc12de : String := "java/util/AbstractList"
def TJxc12de : u_T := fun k => match k with
  | _ => ("", "", "", false)
def tyJxc12de : Nat → FieldType := fun k => match k with
  | _ => .int
theorem nmJxc12de : ∀ a, a < 0 → ∀ b, b < 0 → a ≠ b → (TJxc12de a).2.1 ≠ (TJxc12de b).2.1 := by decide +kernel
theorem tyJxc12de_ok : ∀ k, k < 0 → parseFieldDescriptor (TJxc12de k).2.2.1 = some (tyJxc12de k) := by decide +kernel
abbrev cJxc12de_init_da8c8 : ByteArray := prog_24_method_1_code
def yJxc12de_init_da8c8 : MethodName := ⟨RJxc12de, "<init>", "()V"⟩
def RJx35411 : String := "java/util/ArrayList$Itr"
def TJx35411 : u_T := fun k => match k with
  | 0 => ("java/util/ArrayList$Itr", "cursor", "I", false)
  | 1 => ("java/util/ArrayList$Itr", "lastRet", "I", false)
  | 2 => ("java/util/ArrayList$Itr", "expectedModCount", "I", false)
  | _ => ("java/util/ArrayList$Itr", "this$0", "Ljava/util/ArrayList;", true)
def tyJx35411 : Nat → FieldType := fun k => match k with
  | 0 => .int
  | 1 => .int
  | 2 => .int
  | _ => .object "java/util/ArrayList"
theorem nmJx35411 : ∀ a, a < 4 → ∀ b, b < 4 → a ≠ b → (TJx35411 a).2.1 ≠ (TJx35411 b).2.1 := by decide +kernel
theorem tyJx35411_ok : ∀ k, k < 4 → parseFieldDescriptor (TJx35411 k).2.2.1 = some (tyJx35411 k) := by decide +kernel
abbrev cJx35411_init_45d68 : ByteArray := prog_26_method_1_code
def yJx35411_init_45d68 : MethodName := ⟨RJx35411, "<init>", "(Ljava/util/ArrayList;)V"⟩
abbrev cJx35411_hasNext_aae02 : ByteArray := prog_26_method_2_code
def yJx35411_hasNext_aae02 : MethodName := ⟨RJx35411, "hasNext", "()Z"⟩
abbrev cJx35411_next_0502b : ByteArray := prog_26_method_3_code
def yJx35411_next_0502b : MethodName := ⟨RJx35411, "next", "()Ljava/lang/Object;"⟩
abbrev cJx35411_checkForComodification_da8c8 : ByteArray := prog_26_method_6_code
def yJx35411_checkForComodification_da8c8 : MethodName := ⟨RJx35411, "checkForComodification", "()V"⟩
def RJx4a65c : String := "java/util/ArrayList"
def TJx4a65c : u_T := fun k => match k with
  | 0 => ("java/util/AbstractList", "modCount", "I", false)
  | 1 => ("java/util/ArrayList", "elementData", "[Ljava/lang/Object;", false)
  | _ => ("java/util/ArrayList", "size", "I", false)
def tyJx4a65c : Nat → FieldType := fun k => match k with
  | 0 => .int
  | 1 => .array (.object "java/lang/Object")
  | _ => .int
theorem nmJx4a65c : ∀ a, a < 3 → ∀ b, b < 3 → a ≠ b → (TJx4a65c a).2.1 ≠ (TJx4a65c b).2.1 := by decide +kernel
theorem tyJx4a65c_ok : ∀ k, k < 3 → parseFieldDescriptor (TJx4a65c k).2.2.1 = some (tyJx4a65c k) := by decide +kernel
abbrev cJx4a65c_init_da8c8 : ByteArray := prog_25_method_2_code
def yJx4a65c_init_da8c8 : MethodName := ⟨RJx4a65c, "<init>", "()V"⟩
abbrev cJx4a65c_grow_92f84 : ByteArray := prog_25_method_6_code
def yJx4a65c_grow_92f84 : MethodName := ⟨RJx4a65c, "grow", "(I)[Ljava/lang/Object;"⟩
abbrev cJx4a65c_grow_d5877 : ByteArray := prog_25_method_7_code
def yJx4a65c_grow_d5877 : MethodName := ⟨RJx4a65c, "grow", "()[Ljava/lang/Object;"⟩
abbrev cJx4a65c_size_8abf5 : ByteArray := prog_25_method_8_code
def yJx4a65c_size_8abf5 : MethodName := ⟨RJx4a65c, "size", "()I"⟩
abbrev cJx4a65c_elementData_915e3 : ByteArray := prog_25_method_18_code
def yJx4a65c_elementData_915e3 : MethodName := ⟨RJx4a65c, "elementData", "(I)Ljava/lang/Object;"⟩
abbrev cJx4a65c_get_915e3 : ByteArray := prog_25_method_20_code
def yJx4a65c_get_915e3 : MethodName := ⟨RJx4a65c, "get", "(I)Ljava/lang/Object;"⟩
abbrev cJx4a65c_add_72be8 : ByteArray := prog_25_method_24_code
def yJx4a65c_add_72be8 : MethodName := ⟨RJx4a65c, "add", "(Ljava/lang/Object;[Ljava/lang/Object;I)V"⟩
abbrev cJx4a65c_add_9ea2d : ByteArray := prog_25_method_25_code
def yJx4a65c_add_9ea2d : MethodName := ⟨RJx4a65c, "add", "(Ljava/lang/Object;)Z"⟩
abbrev cJx4a65c_iterator_32c93 : ByteArray := prog_25_method_55_code
def yJx4a65c_iterator_32c93 : MethodName := ⟨RJx4a65c, "iterator", "()Ljava/util/Iterator;"⟩
def RJ7 : String := "java/util/Arrays"
def TJ7 : u_T := fun k => match k with
  | _ => ("", "", "", false)
def tyJ7 : Nat → FieldType := fun k => match k with
  | _ => .int
theorem nmJ7 : ∀ a, a < 0 → ∀ b, b < 0 → a ≠ b → (TJ7 a).2.1 ≠ (TJ7 b).2.1 := by decide +kernel
theorem tyJ7_ok : ∀ k, k < 0 → parseFieldDescriptor (TJ7 k).2.2.1 = some (tyJ7 k) := by decide +kernel
abbrev cJ7_copyOf_1904c : ByteArray := prog_27_method_119_code
def yJ7_copyOf_1904c : MethodName := ⟨RJ7, "copyOf", "([Ljava/lang/Object;I)[Ljava/lang/Object;"⟩
abbrev cJ7_copyOf_6403c : ByteArray := prog_27_method_120_code
def yJ7_copyOf_6403c : MethodName := ⟨RJ7, "copyOf", "([Ljava/lang/Object;ILjava/lang/Class;)[Ljava/lang/Object;"⟩
def RJx5ef63 : String := "java/util/Collection"
def TJx5ef63 : u_T := fun k => match k with
  | _ => ("", "", "", false)
def tyJx5ef63 : Nat → FieldType := fun k => match k with
  | _ => .int
theorem nmJx5ef63 : ∀ a, a < 0 → ∀ b, b < 0 → a ≠ b → (TJx5ef63 a).2.1 ≠ (TJx5ef63 b).2.1 := by decide +kernel
theorem tyJx5ef63_ok : ∀ k, k < 0 → parseFieldDescriptor (TJx5ef63 k).2.2.1 = some (tyJx5ef63 k) := by decide +kernel
def RJx4d0d8 : String := "java/util/Iterator"
def TJx4d0d8 : u_T := fun k => match k with
  | _ => ("", "", "", false)
def tyJx4d0d8 : Nat → FieldType := fun k => match k with
  | _ => .int
theorem nmJx4d0d8 : ∀ a, a < 0 → ∀ b, b < 0 → a ≠ b → (TJx4d0d8 a).2.1 ≠ (TJx4d0d8 b).2.1 := by decide +kernel
theorem tyJx4d0d8_ok : ∀ k, k < 0 → parseFieldDescriptor (TJx4d0d8 k).2.2.1 = some (tyJx4d0d8 k) := by decide +kernel
def RJxbd725 : String := "java/util/List"
def TJxbd725 : u_T := fun k => match k with
  | _ => ("", "", "", false)
def tyJxbd725 : Nat → FieldType := fun k => match k with
  | _ => .int
theorem nmJxbd725 : ∀ a, a < 0 → ∀ b, b < 0 → a ≠ b → (TJxbd725 a).2.1 ≠ (TJxbd725 b).2.1 := by decide +kernel
theorem tyJxbd725_ok : ∀ k, k < 0 → parseFieldDescriptor (TJxbd725 k).2.2.1 = some (tyJxbd725 k) := by decide +kernel
def RJ15 : String := "java/util/Objects"
def TJ15 : u_T := fun k => match k with
  | _ => ("", "", "", false)
def tyJ15 : Nat → FieldType := fun k => match k with
  | _ => .int
theorem nmJ15 : ∀ a, a < 0 → ∀ b, b < 0 → a ≠ b → (TJ15 a).2.1 ≠ (TJ15 b).2.1 := by decide +kernel
theorem tyJ15_ok : ∀ k, k < 0 → parseFieldDescriptor (TJ15 k).2.2.1 = some (tyJ15 k) := by decide +kernel
abbrev cJ15_checkIndex_7cf53 : ByteArray := prog_31_method_17_code
def yJ15_checkIndex_7cf53 : MethodName := ⟨RJ15, "checkIndex", "(II)I"⟩
def RJxf0a74 : String := "java/util/RandomAccess"
def TJxf0a74 : u_T := fun k => match k with
  | _ => ("", "", "", false)
def tyJxf0a74 : Nat → FieldType := fun k => match k with
  | _ => .int
theorem nmJxf0a74 : ∀ a, a < 0 → ∀ b, b < 0 → a ≠ b → (TJxf0a74 a).2.1 ≠ (TJxf0a74 b).2.1 := by decide +kernel
theorem tyJxf0a74_ok : ∀ k, k < 0 → parseFieldDescriptor (TJxf0a74 k).2.2.1 = some (tyJxf0a74 k) := by decide +kernel
def RJxa66e6 : String := "java/util/SequencedCollection"
def TJxa66e6 : u_T := fun k => match k with
  | _ => ("", "", "", false)
def tyJxa66e6 : Nat → FieldType := fun k => match k with
  | _ => .int
theorem nmJxa66e6 : ∀ a, a < 0 → ∀ b, b < 0 → a ≠ b → (TJxa66e6 a).2.1 ≠ (TJxa66e6 b).2.1 := by decide +kernel
theorem tyJxa66e6_ok : ∀ k, k < 0 → parseFieldDescriptor (TJxa66e6 k).2.2.1 = some (tyJxa66e6 k) := by decide +kernel
def RJ8 : String := "jdk/internal/util/ArraysSupport"
def TJ8 : u_T := fun k => match k with
  | _ => ("", "", "", false)
def tyJ8 : Nat → FieldType := fun k => match k with
  | _ => .int
theorem nmJ8 : ∀ a, a < 0 → ∀ b, b < 0 → a ≠ b → (TJ8 a).2.1 ≠ (TJ8 b).2.1 := by decide +kernel
theorem tyJ8_ok : ∀ k, k < 0 → parseFieldDescriptor (TJ8 k).2.2.1 = some (tyJ8 k) := by decide +kernel
abbrev cJ8_newLength_cabcc : ByteArray := prog_34_method_27_code
def yJ8_newLength_cabcc : MethodName := ⟨RJ8, "newLength", "(III)I"⟩
abbrev cJ8_hugeLength_7cf53 : ByteArray := prog_34_method_28_code
def yJ8_hugeLength_7cf53 : MethodName := ⟨RJ8, "hugeLength", "(II)I"⟩
def RJ3 : String := "jdk/internal/util/Preconditions"
def TJ3 : u_T := fun k => match k with
  | _ => ("", "", "", false)
def tyJ3 : Nat → FieldType := fun k => match k with
  | _ => .int
theorem nmJ3 : ∀ a, a < 0 → ∀ b, b < 0 → a ≠ b → (TJ3 a).2.1 ≠ (TJ3 b).2.1 := by decide +kernel
theorem tyJ3_ok : ∀ k, k < 0 → parseFieldDescriptor (TJ3 k).2.2.1 = some (tyJ3 k) := by decide +kernel
abbrev cJ3_checkIndex_8e157 : ByteArray := prog_35_method_11_code
def yJ3_checkIndex_8e157 : MethodName := ⟨RJ3, "checkIndex", "(IILjava/util/function/BiFunction;)I"⟩
def RL : String := "TrackNightsLaw"
abbrev cL_curve : ByteArray := method_3_code
def yL_curve : MethodName := ⟨RL, "curve", "(LTrackNights;IZ[J)I"⟩
abbrev cL_sign : ByteArray := method_4_code
def yL_sign : MethodName := ⟨RL, "sign", "(LTrackNights;II[J)I"⟩
abbrev cL_pass : ByteArray := method_5_code
def yL_pass : MethodName := ⟨RL, "pass", "(LTrackNights;III[J)I"⟩
abbrev cL_measure : ByteArray := method_6_code
def yL_measure : MethodName := ⟨RL, "measure", "(LTrackNights;IIII[J)I"⟩
abbrev cL_align : ByteArray := method_7_code
def yL_align : MethodName := ⟨RL, "align", "(LTrackNights;I[J)I"⟩
abbrev cL_machine : ByteArray := method_8_code
def yL_machine : MethodName := ⟨RL, "machine", "(LTrackNights;II[J)I"⟩
abbrev cL_service : ByteArray := method_9_code
def yL_service : MethodName := ⟨RL, "service", "(LTrackNights;I[J)I"⟩
abbrev cL_book : ByteArray := method_10_code
def yL_book : MethodName := ⟨RL, "book", "(LTrackNights;IIIII[J)I"⟩
abbrev cL_work : ByteArray := method_11_code
def yL_work : MethodName := ⟨RL, "work", "(LTrackNights;III[J)I"⟩
abbrev cL_cancel : ByteArray := method_12_code
def yL_cancel : MethodName := ⟨RL, "cancel", "(LTrackNights;I[J)I"⟩
abbrev cL_mark : ByteArray := method_13_code
def yL_mark : MethodName := ⟨RL, "mark", "(LTrackNights;II[J)I"⟩
abbrev cL_take : ByteArray := method_14_code
def yL_take : MethodName := ⟨RL, "take", "(LTrackNights;I[J)I"⟩
abbrev cL_giveBack : ByteArray := method_15_code
def yL_giveBack : MethodName := ⟨RL, "giveBack", "(LTrackNights;I[J)I"⟩
abbrev cL_walk : ByteArray := method_16_code
def yL_walk : MethodName := ⟨RL, "walk", "(LTrackNights;II[J)I"⟩
abbrev cL_ofSection : ByteArray := method_17_code
def yL_ofSection : MethodName := ⟨RL, "ofSection", "(LTrackNights;II[J)I"⟩
abbrev cL_known : ByteArray := method_18_code
def yL_known : MethodName := ⟨RL, "known", "(LTrackNights;II[J)I"⟩
abbrev cL_why : ByteArray := method_19_code
def yL_why : MethodName := ⟨RL, "why", "(LTrackNights;IZ[J)I"⟩
abbrev cL_ofMachine : ByteArray := method_20_code
def yL_ofMachine : MethodName := ⟨RL, "ofMachine", "(LTrackNights;II[J)I"⟩
abbrev cL_ofPossession : ByteArray := method_21_code
def yL_ofPossession : MethodName := ⟨RL, "ofPossession", "(LTrackNights;II[J)I"⟩
abbrev cL_many : ByteArray := method_22_code
def yL_many : MethodName := ⟨RL, "many", "(LTrackNights;I[J)I"⟩
abbrev cL_meanWear : ByteArray := method_23_code
def yL_meanWear : MethodName := ⟨RL, "meanWear", "(LTrackNights;I[D)I"⟩
abbrev cL_couldSee : ByteArray := method_24_code
def yL_couldSee : MethodName := ⟨RL, "couldSee", "(LTrackNights;I[J)I"⟩
abbrev cL_firstRisk : ByteArray := method_25_code
def yL_firstRisk : MethodName := ⟨RL, "firstRisk", "(LTrackNights;II[J)I"⟩
abbrev cL_bestWork : ByteArray := method_26_code
def yL_bestWork : MethodName := ⟨RL, "bestWork", "(LTrackNights;III[J)I"⟩
abbrev cL_freeDay : ByteArray := method_27_code
def yL_freeDay : MethodName := ⟨RL, "freeDay", "(LTrackNights;III[J)I"⟩
abbrev cL_wouldOverrun : ByteArray := method_28_code
def yL_wouldOverrun : MethodName := ⟨RL, "wouldOverrun", "(LTrackNights;I[J)I"⟩
abbrev cL_law : ByteArray := code
def yL_law : MethodName := ⟨RL, "law", "([I)Z"⟩
abbrev vwCl : List vw_C := [(RJx35411, TJx35411, 4), (RJx4a65c, TJx4a65c, 3), (RX0, TX0, 4), (RX1, TX1, 4), (RX2, TX2, 10), (RX3, TX3, 5), (RX4, TX4, 3), (RX5, TX5, 3), (RX6, TX6, 13), (RX7, TX7, 12)]
end
section
theorem dX0_init_0 : decode cX0_init 0 = .ok (.aload_n 0, 1) := by decide +kernel
theorem dX0_init_1 : decode cX0_init 1 = .ok (.invokespecial 1, 3) := by decide +kernel
theorem dX0_init_4 : decode cX0_init 4 = .ok (.aload_n 0, 1) := by decide +kernel
theorem dX0_init_5 : decode cX0_init 5 = .ok (.iconst 0, 1) := by decide +kernel
theorem dX0_init_6 : decode cX0_init 6 = .ok (.putfield 7, 3) := by decide +kernel
theorem dX0_init_9 : decode cX0_init 9 = .ok (.aload_n 0, 1) := by decide +kernel
theorem dX0_init_10 : decode cX0_init 10 = .ok (.iconst 0, 1) := by decide +kernel
theorem dX0_init_11 : decode cX0_init 11 = .ok (.putfield 13, 3) := by decide +kernel
theorem dX0_init_14 : decode cX0_init 14 = .ok (.aload_n 0, 1) := by decide +kernel
theorem dX0_init_15 : decode cX0_init 15 = .ok (.iload_n 1, 1) := by decide +kernel
theorem dX0_init_16 : decode cX0_init 16 = .ok (.putfield 16, 3) := by decide +kernel
theorem dX0_init_19 : decode cX0_init 19 = .ok (.aload_n 0, 1) := by decide +kernel
theorem dX0_init_20 : decode cX0_init 20 = .ok (.iload_n 2, 1) := by decide +kernel
theorem dX0_init_21 : decode cX0_init 21 = .ok (.putfield 19, 3) := by decide +kernel
theorem dX0_init_24 : decode cX0_init 24 = .ok (.return_, 1) := by decide +kernel
theorem dX1_init_0 : decode cX1_init 0 = .ok (.aload_n 0, 1) := by decide +kernel
theorem dX1_init_1 : decode cX1_init 1 = .ok (.invokespecial 3, 3) := by decide +kernel
theorem dX1_init_4 : decode cX1_init 4 = .ok (.aload_n 0, 1) := by decide +kernel
theorem dX1_init_5 : decode cX1_init 5 = .ok (.iconst 0, 1) := by decide +kernel
theorem dX1_init_6 : decode cX1_init 6 = .ok (.putfield 9, 3) := by decide +kernel
theorem dX1_init_9 : decode cX1_init 9 = .ok (.aload_n 0, 1) := by decide +kernel
theorem dX1_init_10 : decode cX1_init 10 = .ok (.bipush 10, 2) := by decide +kernel
theorem dX1_init_12 : decode cX1_init 12 = .ok (.anewarray 15, 3) := by decide +kernel
theorem dX1_init_15 : decode cX1_init 15 = .ok (.putfield 17, 3) := by decide +kernel
theorem dX1_init_18 : decode cX1_init 18 = .ok (.aload_n 0, 1) := by decide +kernel
theorem dX1_init_19 : decode cX1_init 19 = .ok (.iload_n 1, 1) := by decide +kernel
theorem dX1_init_20 : decode cX1_init 20 = .ok (.putfield 21, 3) := by decide +kernel
theorem dX1_init_23 : decode cX1_init 23 = .ok (.aload_n 0, 1) := by decide +kernel
theorem dX1_init_24 : decode cX1_init 24 = .ok (.iload_n 2, 1) := by decide +kernel
theorem dX1_init_25 : decode cX1_init 25 = .ok (.putfield 25, 3) := by decide +kernel
theorem dX1_init_28 : decode cX1_init 28 = .ok (.return_, 1) := by decide +kernel
theorem dX1_write_0 : decode cX1_write 0 = .ok (.iload_n 1, 1) := by decide +kernel
theorem dX1_write_1 : decode cX1_write 1 = .ok (.ifCond .lt 48, 3) := by decide +kernel
theorem dX1_write_4 : decode cX1_write 4 = .ok (.iload_n 1, 1) := by decide +kernel
theorem dX1_write_5 : decode cX1_write 5 = .ok (.bipush 10, 2) := by decide +kernel
theorem dX1_write_7 : decode cX1_write 7 = .ok (.if_icmp .ge 42, 3) := by decide +kernel
theorem dX1_write_10 : decode cX1_write 10 = .ok (.aload_n 2, 1) := by decide +kernel
theorem dX1_write_11 : decode cX1_write 11 = .ok (.getfield 28, 3) := by decide +kernel
theorem dX1_write_14 : decode cX1_write 14 = .ok (.iconst 5, 1) := by decide +kernel
theorem dX1_write_15 : decode cX1_write 15 = .ok (.if_icmp .ge 7, 3) := by decide +kernel
theorem dX1_write_18 : decode cX1_write 18 = .ok (.iconst 0, 1) := by decide +kernel
theorem dX1_write_19 : decode cX1_write 19 = .ok (.goto 7, 3) := by decide +kernel
theorem dX1_write_22 : decode cX1_write 22 = .ok (.aload_n 2, 1) := by decide +kernel
theorem dX1_write_23 : decode cX1_write 23 = .ok (.getfield 28, 3) := by decide +kernel
theorem dX1_write_26 : decode cX1_write 26 = .ok (.istore_n 3, 1) := by decide +kernel
theorem dX1_write_27 : decode cX1_write 27 = .ok (.aload_n 0, 1) := by decide +kernel
theorem dX1_write_28 : decode cX1_write 28 = .ok (.getfield 17, 3) := by decide +kernel
theorem dX1_write_31 : decode cX1_write 31 = .ok (.iload_n 1, 1) := by decide +kernel
theorem dX1_write_32 : decode cX1_write 32 = .ok (.new 15, 3) := by decide +kernel
theorem dX1_write_35 : decode cX1_write 35 = .ok (.dup, 1) := by decide +kernel
theorem dX1_write_36 : decode cX1_write 36 = .ok (.aload_n 2, 1) := by decide +kernel
theorem dX1_write_37 : decode cX1_write 37 = .ok (.getfield 31, 3) := by decide +kernel
theorem dX1_write_40 : decode cX1_write 40 = .ok (.iload_n 3, 1) := by decide +kernel
theorem dX1_write_41 : decode cX1_write 41 = .ok (.aload_n 2, 1) := by decide +kernel
theorem dX1_write_42 : decode cX1_write 42 = .ok (.getfield 34, 3) := by decide +kernel
theorem dX1_write_45 : decode cX1_write 45 = .ok (.invokespecial 37, 3) := by decide +kernel
theorem dX1_write_48 : decode cX1_write 48 = .ok (.aastore, 1) := by decide +kernel
theorem dX1_write_49 : decode cX1_write 49 = .ok (.return_, 1) := by decide +kernel
theorem dX1_says_0 : decode cX1_says 0 = .ok (.aload_n 0, 1) := by decide +kernel
theorem dX1_says_1 : decode cX1_says 1 = .ok (.getfield 9, 3) := by decide +kernel
theorem dX1_says_4 : decode cX1_says 4 = .ok (.ifCond .eq 11, 3) := by decide +kernel
theorem dX1_says_7 : decode cX1_says 7 = .ok (.aload_n 0, 1) := by decide +kernel
theorem dX1_says_8 : decode cX1_says 8 = .ok (.iload_n 1, 1) := by decide +kernel
theorem dX1_says_9 : decode cX1_says 9 = .ok (.invokevirtual 40, 3) := by decide +kernel
theorem dX1_says_12 : decode cX1_says 12 = .ok (.goto 9, 3) := by decide +kernel
theorem dX1_says_15 : decode cX1_says 15 = .ok (.aload_n 0, 1) := by decide +kernel
theorem dX1_says_16 : decode cX1_says 16 = .ok (.iload_n 1, 1) := by decide +kernel
theorem dX1_says_17 : decode cX1_says 17 = .ok (.iconst 0, 1) := by decide +kernel
theorem dX1_says_18 : decode cX1_says 18 = .ok (.invokevirtual 44, 3) := by decide +kernel
theorem dX1_says_21 : decode cX1_says 21 = .ok (.areturn, 1) := by decide +kernel
theorem dX1_writtenOf_0 : decode cX1_writtenOf 0 = .ok (.aload_n 0, 1) := by decide +kernel
theorem dX1_writtenOf_1 : decode cX1_writtenOf 1 = .ok (.iload_n 1, 1) := by decide +kernel
theorem dX1_writtenOf_2 : decode cX1_writtenOf 2 = .ok (.aload_n 0, 1) := by decide +kernel
theorem dX1_writtenOf_3 : decode cX1_writtenOf 3 = .ok (.getfield 25, 3) := by decide +kernel
theorem dX1_writtenOf_6 : decode cX1_writtenOf 6 = .ok (.invokevirtual 44, 3) := by decide +kernel
theorem dX1_writtenOf_9 : decode cX1_writtenOf 9 = .ok (.areturn, 1) := by decide +kernel
theorem dX1_writtenFor_0 : decode cX1_writtenFor 0 = .ok (.iload_n 1, 1) := by decide +kernel
theorem dX1_writtenFor_1 : decode cX1_writtenFor 1 = .ok (.bipush 10, 2) := by decide +kernel
theorem dX1_writtenFor_3 : decode cX1_writtenFor 3 = .ok (.irem, 1) := by decide +kernel
theorem dX1_writtenFor_4 : decode cX1_writtenFor 4 = .ok (.iload_n 2, 1) := by decide +kernel
theorem dX1_writtenFor_5 : decode cX1_writtenFor 5 = .ok (.isub, 1) := by decide +kernel
theorem dX1_writtenFor_6 : decode cX1_writtenFor 6 = .ok (.istore_n 3, 1) := by decide +kernel
theorem dX1_writtenFor_7 : decode cX1_writtenFor 7 = .ok (.iload_n 1, 1) := by decide +kernel
theorem dX1_writtenFor_8 : decode cX1_writtenFor 8 = .ok (.bipush 10, 2) := by decide +kernel
theorem dX1_writtenFor_10 : decode cX1_writtenFor 10 = .ok (.idiv, 1) := by decide +kernel
theorem dX1_writtenFor_11 : decode cX1_writtenFor 11 = .ok (.aload_n 0, 1) := by decide +kernel
theorem dX1_writtenFor_12 : decode cX1_writtenFor 12 = .ok (.getfield 21, 3) := by decide +kernel
theorem dX1_writtenFor_15 : decode cX1_writtenFor 15 = .ok (.if_icmp .ne 13, 3) := by decide +kernel
theorem dX1_writtenFor_18 : decode cX1_writtenFor 18 = .ok (.iload_n 3, 1) := by decide +kernel
theorem dX1_writtenFor_19 : decode cX1_writtenFor 19 = .ok (.ifCond .lt 9, 3) := by decide +kernel
theorem dX1_writtenFor_22 : decode cX1_writtenFor 22 = .ok (.iload_n 3, 1) := by decide +kernel
theorem dX1_writtenFor_23 : decode cX1_writtenFor 23 = .ok (.bipush 10, 2) := by decide +kernel
theorem dX1_writtenFor_25 : decode cX1_writtenFor 25 = .ok (.if_icmp .lt 5, 3) := by decide +kernel
theorem dX1_writtenFor_28 : decode cX1_writtenFor 28 = .ok (.aconst_null, 1) := by decide +kernel
theorem dX1_writtenFor_29 : decode cX1_writtenFor 29 = .ok (.areturn, 1) := by decide +kernel
theorem dX1_writtenFor_30 : decode cX1_writtenFor 30 = .ok (.aload_n 0, 1) := by decide +kernel
theorem dX1_writtenFor_31 : decode cX1_writtenFor 31 = .ok (.getfield 17, 3) := by decide +kernel
theorem dX1_writtenFor_34 : decode cX1_writtenFor 34 = .ok (.iload_n 3, 1) := by decide +kernel
theorem dX1_writtenFor_35 : decode cX1_writtenFor 35 = .ok (.aaload, 1) := by decide +kernel
theorem dX1_writtenFor_36 : decode cX1_writtenFor 36 = .ok (.areturn, 1) := by decide +kernel
theorem dX2_init_0 : decode cX2_init 0 = .ok (.aload_n 0, 1) := by decide +kernel
theorem dX2_init_1 : decode cX2_init 1 = .ok (.invokespecial 3, 3) := by decide +kernel
theorem dX2_init_4 : decode cX2_init 4 = .ok (.aload_n 0, 1) := by decide +kernel
theorem dX2_init_5 : decode cX2_init 5 = .ok (.new 9, 3) := by decide +kernel
theorem dX2_init_8 : decode cX2_init 8 = .ok (.dup, 1) := by decide +kernel
theorem dX2_init_9 : decode cX2_init 9 = .ok (.invokespecial 11, 3) := by decide +kernel
theorem dX2_init_12 : decode cX2_init 12 = .ok (.putfield 12, 3) := by decide +kernel
theorem dX2_init_15 : decode cX2_init 15 = .ok (.aload_n 0, 1) := by decide +kernel
theorem dX2_init_16 : decode cX2_init 16 = .ok (.iconst 0, 1) := by decide +kernel
theorem dX2_init_17 : decode cX2_init 17 = .ok (.putfield 18, 3) := by decide +kernel
theorem dX2_init_20 : decode cX2_init 20 = .ok (.aload_n 0, 1) := by decide +kernel
theorem dX2_init_21 : decode cX2_init 21 = .ok (.iconst 0, 1) := by decide +kernel
theorem dX2_init_22 : decode cX2_init 22 = .ok (.putfield 22, 3) := by decide +kernel
theorem dX2_init_25 : decode cX2_init 25 = .ok (.aload_n 0, 1) := by decide +kernel
theorem dX2_init_26 : decode cX2_init 26 = .ok (.iconst 0, 1) := by decide +kernel
theorem dX2_init_27 : decode cX2_init 27 = .ok (.putfield 26, 3) := by decide +kernel
theorem dX2_init_30 : decode cX2_init 30 = .ok (.aload_n 0, 1) := by decide +kernel
theorem dX2_init_31 : decode cX2_init 31 = .ok (.iconst 0, 1) := by decide +kernel
theorem dX2_init_32 : decode cX2_init 32 = .ok (.putfield 29, 3) := by decide +kernel
theorem dX2_init_35 : decode cX2_init 35 = .ok (.aload_n 0, 1) := by decide +kernel
theorem dX2_init_36 : decode cX2_init 36 = .ok (.iload_n 1, 1) := by decide +kernel
theorem dX2_init_37 : decode cX2_init 37 = .ok (.putfield 32, 3) := by decide +kernel
theorem dX2_init_40 : decode cX2_init 40 = .ok (.aload_n 0, 1) := by decide +kernel
theorem dX2_init_41 : decode cX2_init 41 = .ok (.iload_n 2, 1) := by decide +kernel
theorem dX2_init_42 : decode cX2_init 42 = .ok (.putfield 35, 3) := by decide +kernel
theorem dX2_init_45 : decode cX2_init 45 = .ok (.aload_n 0, 1) := by decide +kernel
theorem dX2_init_46 : decode cX2_init 46 = .ok (.iload_n 3, 1) := by decide +kernel
theorem dX2_init_47 : decode cX2_init 47 = .ok (.putfield 38, 3) := by decide +kernel
theorem dX2_init_50 : decode cX2_init 50 = .ok (.aload_n 0, 1) := by decide +kernel
theorem dX2_init_51 : decode cX2_init 51 = .ok (.iload 4, 2) := by decide +kernel
theorem dX2_init_53 : decode cX2_init 53 = .ok (.putfield 41, 3) := by decide +kernel
theorem dX2_init_56 : decode cX2_init 56 = .ok (.aload_n 0, 1) := by decide +kernel
theorem dX2_init_57 : decode cX2_init 57 = .ok (.iload 5, 2) := by decide +kernel
theorem dX2_init_59 : decode cX2_init 59 = .ok (.putfield 44, 3) := by decide +kernel
theorem dX2_init_62 : decode cX2_init 62 = .ok (.return_, 1) := by decide +kernel
theorem dX2_has_0 : decode cX2_has 0 = .ok (.iload_n 1, 1) := by decide +kernel
theorem dX2_has_1 : decode cX2_has 1 = .ok (.bipush 10, 2) := by decide +kernel
theorem dX2_has_3 : decode cX2_has 3 = .ok (.irem, 1) := by decide +kernel
theorem dX2_has_4 : decode cX2_has 4 = .ok (.istore_n 2, 1) := by decide +kernel
theorem dX2_has_5 : decode cX2_has 5 = .ok (.iload_n 1, 1) := by decide +kernel
theorem dX2_has_6 : decode cX2_has 6 = .ok (.bipush 10, 2) := by decide +kernel
theorem dX2_has_8 : decode cX2_has 8 = .ok (.idiv, 1) := by decide +kernel
theorem dX2_has_9 : decode cX2_has 9 = .ok (.aload_n 0, 1) := by decide +kernel
theorem dX2_has_10 : decode cX2_has 10 = .ok (.getfield 32, 3) := by decide +kernel
theorem dX2_has_13 : decode cX2_has 13 = .ok (.if_icmp .ne 23, 3) := by decide +kernel
theorem dX2_has_16 : decode cX2_has 16 = .ok (.iload_n 2, 1) := by decide +kernel
theorem dX2_has_17 : decode cX2_has 17 = .ok (.aload_n 0, 1) := by decide +kernel
theorem dX2_has_18 : decode cX2_has 18 = .ok (.getfield 35, 3) := by decide +kernel
theorem dX2_has_21 : decode cX2_has 21 = .ok (.if_icmp .lt 15, 3) := by decide +kernel
theorem dX2_has_24 : decode cX2_has 24 = .ok (.iload_n 2, 1) := by decide +kernel
theorem dX2_has_25 : decode cX2_has 25 = .ok (.aload_n 0, 1) := by decide +kernel
theorem dX2_has_26 : decode cX2_has 26 = .ok (.getfield 38, 3) := by decide +kernel
theorem dX2_has_29 : decode cX2_has 29 = .ok (.if_icmp .gt 7, 3) := by decide +kernel
theorem dX2_has_32 : decode cX2_has 32 = .ok (.iconst 1, 1) := by decide +kernel
theorem dX2_has_33 : decode cX2_has 33 = .ok (.goto 4, 3) := by decide +kernel
theorem dX2_has_36 : decode cX2_has 36 = .ok (.iconst 0, 1) := by decide +kernel
theorem dX2_has_37 : decode cX2_has 37 = .ok (.ireturn, 1) := by decide +kernel
theorem dX2_meets_0 : decode cX2_meets 0 = .ok (.aload_n 0, 1) := by decide +kernel
theorem dX2_meets_1 : decode cX2_meets 1 = .ok (.getfield 32, 3) := by decide +kernel
theorem dX2_meets_4 : decode cX2_meets 4 = .ok (.iload_n 1, 1) := by decide +kernel
theorem dX2_meets_5 : decode cX2_meets 5 = .ok (.if_icmp .ne 23, 3) := by decide +kernel
theorem dX2_meets_8 : decode cX2_meets 8 = .ok (.aload_n 0, 1) := by decide +kernel
theorem dX2_meets_9 : decode cX2_meets 9 = .ok (.getfield 35, 3) := by decide +kernel
theorem dX2_meets_12 : decode cX2_meets 12 = .ok (.iload_n 3, 1) := by decide +kernel
theorem dX2_meets_13 : decode cX2_meets 13 = .ok (.if_icmp .gt 15, 3) := by decide +kernel
theorem dX2_meets_16 : decode cX2_meets 16 = .ok (.iload_n 2, 1) := by decide +kernel
theorem dX2_meets_17 : decode cX2_meets 17 = .ok (.aload_n 0, 1) := by decide +kernel
theorem dX2_meets_18 : decode cX2_meets 18 = .ok (.getfield 38, 3) := by decide +kernel
theorem dX2_meets_21 : decode cX2_meets 21 = .ok (.if_icmp .gt 7, 3) := by decide +kernel
theorem dX2_meets_24 : decode cX2_meets 24 = .ok (.iconst 1, 1) := by decide +kernel
theorem dX2_meets_25 : decode cX2_meets 25 = .ok (.goto 4, 3) := by decide +kernel
theorem dX2_meets_28 : decode cX2_meets 28 = .ok (.iconst 0, 1) := by decide +kernel
theorem dX2_meets_29 : decode cX2_meets 29 = .ok (.ireturn, 1) := by decide +kernel
theorem dX2_isComingOrTaken_0 : decode cX2_isComingOrTaken 0 = .ok (.aload_n 0, 1) := by decide +kernel
theorem dX2_isComingOrTaken_1 : decode cX2_isComingOrTaken 1 = .ok (.getfield 18, 3) := by decide +kernel
theorem dX2_isComingOrTaken_4 : decode cX2_isComingOrTaken 4 = .ok (.ifCond .eq 11, 3) := by decide +kernel
theorem dX2_isComingOrTaken_7 : decode cX2_isComingOrTaken 7 = .ok (.aload_n 0, 1) := by decide +kernel
theorem dX2_isComingOrTaken_8 : decode cX2_isComingOrTaken 8 = .ok (.getfield 18, 3) := by decide +kernel
theorem dX2_isComingOrTaken_11 : decode cX2_isComingOrTaken 11 = .ok (.iconst 1, 1) := by decide +kernel
theorem dX2_isComingOrTaken_12 : decode cX2_isComingOrTaken 12 = .ok (.if_icmp .ne 7, 3) := by decide +kernel
theorem dX2_isComingOrTaken_15 : decode cX2_isComingOrTaken 15 = .ok (.iconst 1, 1) := by decide +kernel
theorem dX2_isComingOrTaken_16 : decode cX2_isComingOrTaken 16 = .ok (.goto 4, 3) := by decide +kernel
theorem dX2_isComingOrTaken_19 : decode cX2_isComingOrTaken 19 = .ok (.iconst 0, 1) := by decide +kernel
theorem dX2_isComingOrTaken_20 : decode cX2_isComingOrTaken 20 = .ok (.ireturn, 1) := by decide +kernel
theorem dX2_isMarked_0 : decode cX2_isMarked 0 = .ok (.iload_n 1, 1) := by decide +kernel
theorem dX2_isMarked_1 : decode cX2_isMarked 1 = .ok (.ifCond .ne 10, 3) := by decide +kernel
theorem dX2_isMarked_4 : decode cX2_isMarked 4 = .ok (.aload_n 0, 1) := by decide +kernel
theorem dX2_isMarked_5 : decode cX2_isMarked 5 = .ok (.getfield 22, 3) := by decide +kernel
theorem dX2_isMarked_8 : decode cX2_isMarked 8 = .ok (.goto 7, 3) := by decide +kernel
theorem dX2_isMarked_11 : decode cX2_isMarked 11 = .ok (.aload_n 0, 1) := by decide +kernel
theorem dX2_isMarked_12 : decode cX2_isMarked 12 = .ok (.getfield 26, 3) := by decide +kernel
theorem dX2_isMarked_15 : decode cX2_isMarked 15 = .ok (.ireturn, 1) := by decide +kernel
theorem dX2_putMark_0 : decode cX2_putMark 0 = .ok (.iload_n 1, 1) := by decide +kernel
theorem dX2_putMark_1 : decode cX2_putMark 1 = .ok (.ifCond .ne 11, 3) := by decide +kernel
theorem dX2_putMark_4 : decode cX2_putMark 4 = .ok (.aload_n 0, 1) := by decide +kernel
theorem dX2_putMark_5 : decode cX2_putMark 5 = .ok (.iconst 1, 1) := by decide +kernel
theorem dX2_putMark_6 : decode cX2_putMark 6 = .ok (.putfield 22, 3) := by decide +kernel
theorem dX2_putMark_9 : decode cX2_putMark 9 = .ok (.goto 8, 3) := by decide +kernel
theorem dX2_putMark_12 : decode cX2_putMark 12 = .ok (.aload_n 0, 1) := by decide +kernel
theorem dX2_putMark_13 : decode cX2_putMark 13 = .ok (.iconst 1, 1) := by decide +kernel
theorem dX2_putMark_14 : decode cX2_putMark 14 = .ok (.putfield 26, 3) := by decide +kernel
theorem dX2_putMark_17 : decode cX2_putMark 17 = .ok (.return_, 1) := by decide +kernel
theorem dX2_marks_0 : decode cX2_marks 0 = .ok (.aload_n 0, 1) := by decide +kernel
theorem dX2_marks_1 : decode cX2_marks 1 = .ok (.getfield 22, 3) := by decide +kernel
theorem dX2_marks_4 : decode cX2_marks 4 = .ok (.ifCond .eq 7, 3) := by decide +kernel
theorem dX2_marks_7 : decode cX2_marks 7 = .ok (.iconst 1, 1) := by decide +kernel
theorem dX2_marks_8 : decode cX2_marks 8 = .ok (.goto 4, 3) := by decide +kernel
theorem dX2_marks_11 : decode cX2_marks 11 = .ok (.iconst 0, 1) := by decide +kernel
theorem dX2_marks_12 : decode cX2_marks 12 = .ok (.aload_n 0, 1) := by decide +kernel
theorem dX2_marks_13 : decode cX2_marks 13 = .ok (.getfield 26, 3) := by decide +kernel
theorem dX2_marks_16 : decode cX2_marks 16 = .ok (.ifCond .eq 7, 3) := by decide +kernel
theorem dX2_marks_19 : decode cX2_marks 19 = .ok (.iconst 1, 1) := by decide +kernel
theorem dX2_marks_20 : decode cX2_marks 20 = .ok (.goto 4, 3) := by decide +kernel
theorem dX2_marks_23 : decode cX2_marks 23 = .ok (.iconst 0, 1) := by decide +kernel
theorem dX2_marks_24 : decode cX2_marks 24 = .ok (.iadd, 1) := by decide +kernel
theorem dX2_marks_25 : decode cX2_marks 25 = .ok (.ireturn, 1) := by decide +kernel
theorem dX2_uses_0 : decode cX2_uses 0 = .ok (.iconst 0, 1) := by decide +kernel
theorem dX2_uses_1 : decode cX2_uses 1 = .ok (.istore_n 2, 1) := by decide +kernel
theorem dX2_uses_2 : decode cX2_uses 2 = .ok (.iload_n 2, 1) := by decide +kernel
theorem dX2_uses_3 : decode cX2_uses 3 = .ok (.aload_n 0, 1) := by decide +kernel
theorem dX2_uses_4 : decode cX2_uses 4 = .ok (.getfield 12, 3) := by decide +kernel
theorem dX2_uses_7 : decode cX2_uses 7 = .ok (.invokevirtual 47, 3) := by decide +kernel
theorem dX2_uses_10 : decode cX2_uses 10 = .ok (.if_icmp .ge 29, 3) := by decide +kernel
theorem dX2_uses_13 : decode cX2_uses 13 = .ok (.aload_n 0, 1) := by decide +kernel
theorem dX2_uses_14 : decode cX2_uses 14 = .ok (.getfield 12, 3) := by decide +kernel
theorem dX2_uses_17 : decode cX2_uses 17 = .ok (.iload_n 2, 1) := by decide +kernel
theorem dX2_uses_18 : decode cX2_uses 18 = .ok (.invokevirtual 51, 3) := by decide +kernel
theorem dX2_uses_21 : decode cX2_uses 21 = .ok (.checkcast 55, 3) := by decide +kernel
theorem dX2_uses_24 : decode cX2_uses 24 = .ok (.getfield 57, 3) := by decide +kernel
theorem dX2_uses_27 : decode cX2_uses 27 = .ok (.aload_n 1, 1) := by decide +kernel
theorem dX2_uses_28 : decode cX2_uses 28 = .ok (.if_acmp .ne 5, 3) := by decide +kernel
theorem dX2_uses_31 : decode cX2_uses 31 = .ok (.iconst 1, 1) := by decide +kernel
theorem dX2_uses_32 : decode cX2_uses 32 = .ok (.ireturn, 1) := by decide +kernel
theorem dX2_uses_33 : decode cX2_uses 33 = .ok (.iinc 2 1, 3) := by decide +kernel
theorem dX2_uses_36 : decode cX2_uses 36 = .ok (.goto (-34), 3) := by decide +kernel
theorem dX2_uses_39 : decode cX2_uses 39 = .ok (.iconst 0, 1) := by decide +kernel
theorem dX2_uses_40 : decode cX2_uses 40 = .ok (.ireturn, 1) := by decide +kernel
theorem dX2_hoursPlanned_0 : decode cX2_hoursPlanned 0 = .ok (.iconst 0, 1) := by decide +kernel
theorem dX2_hoursPlanned_1 : decode cX2_hoursPlanned 1 = .ok (.istore_n 1, 1) := by decide +kernel
theorem dX2_hoursPlanned_2 : decode cX2_hoursPlanned 2 = .ok (.iconst 0, 1) := by decide +kernel
theorem dX2_hoursPlanned_3 : decode cX2_hoursPlanned 3 = .ok (.istore_n 2, 1) := by decide +kernel
theorem dX2_hoursPlanned_4 : decode cX2_hoursPlanned 4 = .ok (.iload_n 2, 1) := by decide +kernel
theorem dX2_hoursPlanned_5 : decode cX2_hoursPlanned 5 = .ok (.aload_n 0, 1) := by decide +kernel
theorem dX2_hoursPlanned_6 : decode cX2_hoursPlanned 6 = .ok (.getfield 12, 3) := by decide +kernel
theorem dX2_hoursPlanned_9 : decode cX2_hoursPlanned 9 = .ok (.invokevirtual 47, 3) := by decide +kernel
theorem dX2_hoursPlanned_12 : decode cX2_hoursPlanned 12 = .ok (.if_icmp .ge 26, 3) := by decide +kernel
theorem dX2_hoursPlanned_15 : decode cX2_hoursPlanned 15 = .ok (.iload_n 1, 1) := by decide +kernel
theorem dX2_hoursPlanned_16 : decode cX2_hoursPlanned 16 = .ok (.aload_n 0, 1) := by decide +kernel
theorem dX2_hoursPlanned_17 : decode cX2_hoursPlanned 17 = .ok (.getfield 12, 3) := by decide +kernel
theorem dX2_hoursPlanned_20 : decode cX2_hoursPlanned 20 = .ok (.iload_n 2, 1) := by decide +kernel
theorem dX2_hoursPlanned_21 : decode cX2_hoursPlanned 21 = .ok (.invokevirtual 51, 3) := by decide +kernel
theorem dX2_hoursPlanned_24 : decode cX2_hoursPlanned 24 = .ok (.checkcast 55, 3) := by decide +kernel
theorem dX2_hoursPlanned_27 : decode cX2_hoursPlanned 27 = .ok (.getfield 61, 3) := by decide +kernel
theorem dX2_hoursPlanned_30 : decode cX2_hoursPlanned 30 = .ok (.iadd, 1) := by decide +kernel
theorem dX2_hoursPlanned_31 : decode cX2_hoursPlanned 31 = .ok (.istore_n 1, 1) := by decide +kernel
theorem dX2_hoursPlanned_32 : decode cX2_hoursPlanned 32 = .ok (.iinc 2 1, 3) := by decide +kernel
theorem dX2_hoursPlanned_35 : decode cX2_hoursPlanned 35 = .ok (.goto (-31), 3) := by decide +kernel
theorem dX2_hoursPlanned_38 : decode cX2_hoursPlanned 38 = .ok (.iload_n 1, 1) := by decide +kernel
theorem dX2_hoursPlanned_39 : decode cX2_hoursPlanned 39 = .ok (.ireturn, 1) := by decide +kernel
theorem dX2_hoursTakenBy_0 : decode cX2_hoursTakenBy 0 = .ok (.aload_n 1, 1) := by decide +kernel
theorem dX2_hoursTakenBy_1 : decode cX2_hoursTakenBy 1 = .ok (.getfield 62, 3) := by decide +kernel
theorem dX2_hoursTakenBy_4 : decode cX2_hoursTakenBy 4 = .ok (.istore_n 2, 1) := by decide +kernel
theorem dX2_hoursTakenBy_5 : decode cX2_hoursTakenBy 5 = .ok (.iconst 0, 1) := by decide +kernel
theorem dX2_hoursTakenBy_6 : decode cX2_hoursTakenBy 6 = .ok (.istore_n 3, 1) := by decide +kernel
theorem dX2_hoursTakenBy_7 : decode cX2_hoursTakenBy 7 = .ok (.iconst 0, 1) := by decide +kernel
theorem dX2_hoursTakenBy_8 : decode cX2_hoursTakenBy 8 = .ok (.istore 4, 2) := by decide +kernel
theorem dX2_hoursTakenBy_10 : decode cX2_hoursTakenBy 10 = .ok (.iload 4, 2) := by decide +kernel
theorem dX2_hoursTakenBy_12 : decode cX2_hoursTakenBy 12 = .ok (.aload_n 0, 1) := by decide +kernel
theorem dX2_hoursTakenBy_13 : decode cX2_hoursTakenBy 13 = .ok (.getfield 12, 3) := by decide +kernel
theorem dX2_hoursTakenBy_16 : decode cX2_hoursTakenBy 16 = .ok (.invokevirtual 47, 3) := by decide +kernel
theorem dX2_hoursTakenBy_19 : decode cX2_hoursTakenBy 19 = .ok (.if_icmp .ge 88, 3) := by decide +kernel
theorem dX2_hoursTakenBy_22 : decode cX2_hoursTakenBy 22 = .ok (.aload_n 0, 1) := by decide +kernel
theorem dX2_hoursTakenBy_23 : decode cX2_hoursTakenBy 23 = .ok (.getfield 12, 3) := by decide +kernel
theorem dX2_hoursTakenBy_26 : decode cX2_hoursTakenBy 26 = .ok (.iload 4, 2) := by decide +kernel
theorem dX2_hoursTakenBy_28 : decode cX2_hoursTakenBy 28 = .ok (.invokevirtual 51, 3) := by decide +kernel
theorem dX2_hoursTakenBy_31 : decode cX2_hoursTakenBy 31 = .ok (.checkcast 55, 3) := by decide +kernel
theorem dX2_hoursTakenBy_34 : decode cX2_hoursTakenBy 34 = .ok (.astore 5, 2) := by decide +kernel
theorem dX2_hoursTakenBy_36 : decode cX2_hoursTakenBy 36 = .ok (.aload 5, 2) := by decide +kernel
theorem dX2_hoursTakenBy_38 : decode cX2_hoursTakenBy 38 = .ok (.getfield 57, 3) := by decide +kernel
theorem dX2_hoursTakenBy_41 : decode cX2_hoursTakenBy 41 = .ok (.aload_n 1, 1) := by decide +kernel
theorem dX2_hoursTakenBy_42 : decode cX2_hoursTakenBy 42 = .ok (.if_acmp .ne 59, 3) := by decide +kernel
theorem dX2_hoursTakenBy_45 : decode cX2_hoursTakenBy 45 = .ok (.iload_n 2, 1) := by decide +kernel
theorem dX2_hoursTakenBy_46 : decode cX2_hoursTakenBy 46 = .ok (.aload 5, 2) := by decide +kernel
theorem dX2_hoursTakenBy_48 : decode cX2_hoursTakenBy 48 = .ok (.getfield 61, 3) := by decide +kernel
theorem dX2_hoursTakenBy_51 : decode cX2_hoursTakenBy 51 = .ok (.if_icmp .ge 7, 3) := by decide +kernel
theorem dX2_hoursTakenBy_54 : decode cX2_hoursTakenBy 54 = .ok (.iconst 1, 1) := by decide +kernel
theorem dX2_hoursTakenBy_55 : decode cX2_hoursTakenBy 55 = .ok (.goto 4, 3) := by decide +kernel
theorem dX2_hoursTakenBy_58 : decode cX2_hoursTakenBy 58 = .ok (.iconst 0, 1) := by decide +kernel
theorem dX2_hoursTakenBy_59 : decode cX2_hoursTakenBy 59 = .ok (.istore 6, 2) := by decide +kernel
theorem dX2_hoursTakenBy_61 : decode cX2_hoursTakenBy 61 = .ok (.iload 6, 2) := by decide +kernel
theorem dX2_hoursTakenBy_63 : decode cX2_hoursTakenBy 63 = .ok (.ifCond .eq 7, 3) := by decide +kernel
theorem dX2_hoursTakenBy_66 : decode cX2_hoursTakenBy 66 = .ok (.iconst 0, 1) := by decide +kernel
theorem dX2_hoursTakenBy_67 : decode cX2_hoursTakenBy 67 = .ok (.goto 10, 3) := by decide +kernel
theorem dX2_hoursTakenBy_70 : decode cX2_hoursTakenBy 70 = .ok (.iload_n 2, 1) := by decide +kernel
theorem dX2_hoursTakenBy_71 : decode cX2_hoursTakenBy 71 = .ok (.aload 5, 2) := by decide +kernel
theorem dX2_hoursTakenBy_73 : decode cX2_hoursTakenBy 73 = .ok (.getfield 61, 3) := by decide +kernel
theorem dX2_hoursTakenBy_76 : decode cX2_hoursTakenBy 76 = .ok (.isub, 1) := by decide +kernel
theorem dX2_hoursTakenBy_77 : decode cX2_hoursTakenBy 77 = .ok (.istore_n 2, 1) := by decide +kernel
theorem dX2_hoursTakenBy_78 : decode cX2_hoursTakenBy 78 = .ok (.iload_n 3, 1) := by decide +kernel
theorem dX2_hoursTakenBy_79 : decode cX2_hoursTakenBy 79 = .ok (.iload 6, 2) := by decide +kernel
theorem dX2_hoursTakenBy_81 : decode cX2_hoursTakenBy 81 = .ok (.ifCond .eq 13, 3) := by decide +kernel
theorem dX2_hoursTakenBy_84 : decode cX2_hoursTakenBy 84 = .ok (.aload 5, 2) := by decide +kernel
theorem dX2_hoursTakenBy_86 : decode cX2_hoursTakenBy 86 = .ok (.getfield 61, 3) := by decide +kernel
theorem dX2_hoursTakenBy_89 : decode cX2_hoursTakenBy 89 = .ok (.iconst 2, 1) := by decide +kernel
theorem dX2_hoursTakenBy_90 : decode cX2_hoursTakenBy 90 = .ok (.iadd, 1) := by decide +kernel
theorem dX2_hoursTakenBy_91 : decode cX2_hoursTakenBy 91 = .ok (.goto 8, 3) := by decide +kernel
theorem dX2_hoursTakenBy_94 : decode cX2_hoursTakenBy 94 = .ok (.aload 5, 2) := by decide +kernel
theorem dX2_hoursTakenBy_96 : decode cX2_hoursTakenBy 96 = .ok (.getfield 61, 3) := by decide +kernel
theorem dX2_hoursTakenBy_99 : decode cX2_hoursTakenBy 99 = .ok (.iadd, 1) := by decide +kernel
theorem dX2_hoursTakenBy_100 : decode cX2_hoursTakenBy 100 = .ok (.istore_n 3, 1) := by decide +kernel
theorem dX2_hoursTakenBy_101 : decode cX2_hoursTakenBy 101 = .ok (.iinc 4 1, 3) := by decide +kernel
theorem dX2_hoursTakenBy_104 : decode cX2_hoursTakenBy 104 = .ok (.goto (-94), 3) := by decide +kernel
theorem dX2_hoursTakenBy_107 : decode cX2_hoursTakenBy 107 = .ok (.iload_n 3, 1) := by decide +kernel
theorem dX2_hoursTakenBy_108 : decode cX2_hoursTakenBy 108 = .ok (.ireturn, 1) := by decide +kernel
theorem dX3_init_0 : decode cX3_init 0 = .ok (.aload_n 0, 1) := by decide +kernel
theorem dX3_init_1 : decode cX3_init 1 = .ok (.invokespecial 3, 3) := by decide +kernel
theorem dX3_init_4 : decode cX3_init 4 = .ok (.aload_n 0, 1) := by decide +kernel
theorem dX3_init_5 : decode cX3_init 5 = .ok (.new 9, 3) := by decide +kernel
theorem dX3_init_8 : decode cX3_init 8 = .ok (.dup, 1) := by decide +kernel
theorem dX3_init_9 : decode cX3_init 9 = .ok (.iconst 0, 1) := by decide +kernel
theorem dX3_init_10 : decode cX3_init 10 = .ok (.iconst 0, 1) := by decide +kernel
theorem dX3_init_11 : decode cX3_init 11 = .ok (.iconst 0, 1) := by decide +kernel
theorem dX3_init_12 : decode cX3_init 12 = .ok (.invokespecial 11, 3) := by decide +kernel
theorem dX3_init_15 : decode cX3_init 15 = .ok (.putfield 14, 3) := by decide +kernel
theorem dX3_init_18 : decode cX3_init 18 = .ok (.aload_n 0, 1) := by decide +kernel
theorem dX3_init_19 : decode cX3_init 19 = .ok (.iconst 0, 1) := by decide +kernel
theorem dX3_init_20 : decode cX3_init 20 = .ok (.putfield 20, 3) := by decide +kernel
theorem dX3_init_23 : decode cX3_init 23 = .ok (.aload_n 0, 1) := by decide +kernel
theorem dX3_init_24 : decode cX3_init 24 = .ok (.bipush 27, 2) := by decide +kernel
theorem dX3_init_26 : decode cX3_init 26 = .ok (.putfield 24, 3) := by decide +kernel
theorem dX3_init_29 : decode cX3_init 29 = .ok (.aload_n 0, 1) := by decide +kernel
theorem dX3_init_30 : decode cX3_init 30 = .ok (.iconst 0, 1) := by decide +kernel
theorem dX3_init_31 : decode cX3_init 31 = .ok (.putfield 27, 3) := by decide +kernel
theorem dX3_init_34 : decode cX3_init 34 = .ok (.aload_n 0, 1) := by decide +kernel
theorem dX3_init_35 : decode cX3_init 35 = .ok (.sipush 160, 3) := by decide +kernel
theorem dX3_init_38 : decode cX3_init 38 = .ok (.putfield 31, 3) := by decide +kernel
theorem dX3_init_41 : decode cX3_init 41 = .ok (.return_, 1) := by decide +kernel
theorem dX3_become_0 : decode cX3_become 0 = .ok (.aload_n 0, 1) := by decide +kernel
theorem dX3_become_1 : decode cX3_become 1 = .ok (.getfield 14, 3) := by decide +kernel
theorem dX3_become_4 : decode cX3_become 4 = .ok (.aload_n 1, 1) := by decide +kernel
theorem dX3_become_5 : decode cX3_become 5 = .ok (.getfield 14, 3) := by decide +kernel
theorem dX3_become_8 : decode cX3_become 8 = .ok (.getfield 34, 3) := by decide +kernel
theorem dX3_become_11 : decode cX3_become 11 = .ok (.putfield 34, 3) := by decide +kernel
theorem dX3_become_14 : decode cX3_become 14 = .ok (.aload_n 0, 1) := by decide +kernel
theorem dX3_become_15 : decode cX3_become 15 = .ok (.getfield 14, 3) := by decide +kernel
theorem dX3_become_18 : decode cX3_become 18 = .ok (.aload_n 1, 1) := by decide +kernel
theorem dX3_become_19 : decode cX3_become 19 = .ok (.getfield 14, 3) := by decide +kernel
theorem dX3_become_22 : decode cX3_become 22 = .ok (.getfield 37, 3) := by decide +kernel
theorem dX3_become_25 : decode cX3_become 25 = .ok (.putfield 37, 3) := by decide +kernel
theorem dX3_become_28 : decode cX3_become 28 = .ok (.aload_n 0, 1) := by decide +kernel
theorem dX3_become_29 : decode cX3_become 29 = .ok (.getfield 14, 3) := by decide +kernel
theorem dX3_become_32 : decode cX3_become 32 = .ok (.aload_n 1, 1) := by decide +kernel
theorem dX3_become_33 : decode cX3_become 33 = .ok (.getfield 14, 3) := by decide +kernel
theorem dX3_become_36 : decode cX3_become 36 = .ok (.getfield 40, 3) := by decide +kernel
theorem dX3_become_39 : decode cX3_become 39 = .ok (.putfield 40, 3) := by decide +kernel
theorem dX3_become_42 : decode cX3_become 42 = .ok (.aload_n 0, 1) := by decide +kernel
theorem dX3_become_43 : decode cX3_become 43 = .ok (.aload_n 1, 1) := by decide +kernel
theorem dX3_become_44 : decode cX3_become 44 = .ok (.getfield 20, 3) := by decide +kernel
theorem dX3_become_47 : decode cX3_become 47 = .ok (.putfield 20, 3) := by decide +kernel
theorem dX3_become_50 : decode cX3_become 50 = .ok (.aload_n 0, 1) := by decide +kernel
theorem dX3_become_51 : decode cX3_become 51 = .ok (.aload_n 1, 1) := by decide +kernel
theorem dX3_become_52 : decode cX3_become 52 = .ok (.getfield 24, 3) := by decide +kernel
theorem dX3_become_55 : decode cX3_become 55 = .ok (.putfield 24, 3) := by decide +kernel
theorem dX3_become_58 : decode cX3_become 58 = .ok (.aload_n 0, 1) := by decide +kernel
theorem dX3_become_59 : decode cX3_become 59 = .ok (.aload_n 1, 1) := by decide +kernel
theorem dX3_become_60 : decode cX3_become 60 = .ok (.getfield 27, 3) := by decide +kernel
theorem dX3_become_63 : decode cX3_become 63 = .ok (.putfield 27, 3) := by decide +kernel
theorem dX3_become_66 : decode cX3_become 66 = .ok (.aload_n 0, 1) := by decide +kernel
theorem dX3_become_67 : decode cX3_become 67 = .ok (.aload_n 1, 1) := by decide +kernel
theorem dX3_become_68 : decode cX3_become 68 = .ok (.getfield 31, 3) := by decide +kernel
theorem dX3_become_71 : decode cX3_become 71 = .ok (.putfield 31, 3) := by decide +kernel
theorem dX3_become_74 : decode cX3_become 74 = .ok (.return_, 1) := by decide +kernel
theorem dX3_trueSpeed_0 : decode cX3_trueSpeed 0 = .ok (.aload_n 0, 1) := by decide +kernel
theorem dX3_trueSpeed_1 : decode cX3_trueSpeed 1 = .ok (.getfield 14, 3) := by decide +kernel
theorem dX3_trueSpeed_4 : decode cX3_trueSpeed 4 = .ok (.iload_n 1, 1) := by decide +kernel
theorem dX3_trueSpeed_5 : decode cX3_trueSpeed 5 = .ok (.aload_n 0, 1) := by decide +kernel
theorem dX3_trueSpeed_6 : decode cX3_trueSpeed 6 = .ok (.getfield 24, 3) := by decide +kernel
theorem dX3_trueSpeed_9 : decode cX3_trueSpeed 9 = .ok (.isub, 1) := by decide +kernel
theorem dX3_trueSpeed_10 : decode cX3_trueSpeed 10 = .ok (.invokevirtual 43, 3) := by decide +kernel
theorem dX3_trueSpeed_13 : decode cX3_trueSpeed 13 = .ok (.ireturn, 1) := by decide +kernel
theorem dX3_isRisk_0 : decode cX3_isRisk 0 = .ok (.aload_n 0, 1) := by decide +kernel
theorem dX3_isRisk_1 : decode cX3_isRisk 1 = .ok (.getfield 31, 3) := by decide +kernel
theorem dX3_isRisk_4 : decode cX3_isRisk 4 = .ok (.aload_n 0, 1) := by decide +kernel
theorem dX3_isRisk_5 : decode cX3_isRisk 5 = .ok (.iload_n 1, 1) := by decide +kernel
theorem dX3_isRisk_6 : decode cX3_isRisk 6 = .ok (.invokevirtual 47, 3) := by decide +kernel
theorem dX3_isRisk_9 : decode cX3_isRisk 9 = .ok (.if_icmp .le 7, 3) := by decide +kernel
theorem dX3_isRisk_12 : decode cX3_isRisk 12 = .ok (.iconst 1, 1) := by decide +kernel
theorem dX3_isRisk_13 : decode cX3_isRisk 13 = .ok (.goto 4, 3) := by decide +kernel
theorem dX3_isRisk_16 : decode cX3_isRisk 16 = .ok (.iconst 0, 1) := by decide +kernel
theorem dX3_isRisk_17 : decode cX3_isRisk 17 = .ok (.ireturn, 1) := by decide +kernel
theorem dX3_bearDay_0 : decode cX3_bearDay 0 = .ok (.aload_n 0, 1) := by decide +kernel
theorem dX3_bearDay_1 : decode cX3_bearDay 1 = .ok (.getfield 27, 3) := by decide +kernel
theorem dX3_bearDay_4 : decode cX3_bearDay 4 = .ok (.ifCond .eq 9, 3) := by decide +kernel
theorem dX3_bearDay_7 : decode cX3_bearDay 7 = .ok (.iload_n 1, 1) := by decide +kernel
theorem dX3_bearDay_8 : decode cX3_bearDay 8 = .ok (.iconst 4, 1) := by decide +kernel
theorem dX3_bearDay_9 : decode cX3_bearDay 9 = .ok (.idiv, 1) := by decide +kernel
theorem dX3_bearDay_10 : decode cX3_bearDay 10 = .ok (.goto 7, 3) := by decide +kernel
theorem dX3_bearDay_13 : decode cX3_bearDay 13 = .ok (.iload_n 1, 1) := by decide +kernel
theorem dX3_bearDay_14 : decode cX3_bearDay 14 = .ok (.bipush 8, 2) := by decide +kernel
theorem dX3_bearDay_16 : decode cX3_bearDay 16 = .ok (.idiv, 1) := by decide +kernel
theorem dX3_bearDay_17 : decode cX3_bearDay 17 = .ok (.istore_n 2, 1) := by decide +kernel
theorem dX3_bearDay_18 : decode cX3_bearDay 18 = .ok (.aload_n 0, 1) := by decide +kernel
theorem dX3_bearDay_19 : decode cX3_bearDay 19 = .ok (.getfield 14, 3) := by decide +kernel
theorem dX3_bearDay_22 : decode cX3_bearDay 22 = .ok (.bipush 100, 2) := by decide +kernel
theorem dX3_bearDay_24 : decode cX3_bearDay 24 = .ok (.aload_n 0, 1) := by decide +kernel
theorem dX3_bearDay_25 : decode cX3_bearDay 25 = .ok (.getfield 14, 3) := by decide +kernel
theorem dX3_bearDay_28 : decode cX3_bearDay 28 = .ok (.getfield 34, 3) := by decide +kernel
theorem dX3_bearDay_31 : decode cX3_bearDay 31 = .ok (.iload_n 2, 1) := by decide +kernel
theorem dX3_bearDay_32 : decode cX3_bearDay 32 = .ok (.iadd, 1) := by decide +kernel
theorem dX3_bearDay_33 : decode cX3_bearDay 33 = .ok (.invokestatic 50, 3) := by decide +kernel
theorem dX3_bearDay_36 : decode cX3_bearDay 36 = .ok (.putfield 34, 3) := by decide +kernel
theorem dX3_bearDay_39 : decode cX3_bearDay 39 = .ok (.aload_n 0, 1) := by decide +kernel
theorem dX3_bearDay_40 : decode cX3_bearDay 40 = .ok (.getfield 14, 3) := by decide +kernel
theorem dX3_bearDay_43 : decode cX3_bearDay 43 = .ok (.bipush 60, 2) := by decide +kernel
theorem dX3_bearDay_45 : decode cX3_bearDay 45 = .ok (.aload_n 0, 1) := by decide +kernel
theorem dX3_bearDay_46 : decode cX3_bearDay 46 = .ok (.getfield 14, 3) := by decide +kernel
theorem dX3_bearDay_49 : decode cX3_bearDay 49 = .ok (.getfield 37, 3) := by decide +kernel
theorem dX3_bearDay_52 : decode cX3_bearDay 52 = .ok (.aload_n 0, 1) := by decide +kernel
theorem dX3_bearDay_53 : decode cX3_bearDay 53 = .ok (.invokevirtual 56, 3) := by decide +kernel
theorem dX3_bearDay_56 : decode cX3_bearDay 56 = .ok (.iadd, 1) := by decide +kernel
theorem dX3_bearDay_57 : decode cX3_bearDay 57 = .ok (.invokestatic 50, 3) := by decide +kernel
theorem dX3_bearDay_60 : decode cX3_bearDay 60 = .ok (.putfield 37, 3) := by decide +kernel
theorem dX3_bearDay_63 : decode cX3_bearDay 63 = .ok (.aload_n 0, 1) := by decide +kernel
theorem dX3_bearDay_64 : decode cX3_bearDay 64 = .ok (.getfield 14, 3) := by decide +kernel
theorem dX3_bearDay_67 : decode cX3_bearDay 67 = .ok (.bipush 60, 2) := by decide +kernel
theorem dX3_bearDay_69 : decode cX3_bearDay 69 = .ok (.aload_n 0, 1) := by decide +kernel
theorem dX3_bearDay_70 : decode cX3_bearDay 70 = .ok (.getfield 14, 3) := by decide +kernel
theorem dX3_bearDay_73 : decode cX3_bearDay 73 = .ok (.getfield 40, 3) := by decide +kernel
theorem dX3_bearDay_76 : decode cX3_bearDay 76 = .ok (.iload_n 1, 1) := by decide +kernel
theorem dX3_bearDay_77 : decode cX3_bearDay 77 = .ok (.iconst 5, 1) := by decide +kernel
theorem dX3_bearDay_78 : decode cX3_bearDay 78 = .ok (.aload_n 0, 1) := by decide +kernel
theorem dX3_bearDay_79 : decode cX3_bearDay 79 = .ok (.getfield 20, 3) := by decide +kernel
theorem dX3_bearDay_82 : decode cX3_bearDay 82 = .ok (.imul, 1) := by decide +kernel
theorem dX3_bearDay_83 : decode cX3_bearDay 83 = .ok (.iadd, 1) := by decide +kernel
theorem dX3_bearDay_84 : decode cX3_bearDay 84 = .ok (.bipush 10, 2) := by decide +kernel
theorem dX3_bearDay_86 : decode cX3_bearDay 86 = .ok (.idiv, 1) := by decide +kernel
theorem dX3_bearDay_87 : decode cX3_bearDay 87 = .ok (.iadd, 1) := by decide +kernel
theorem dX3_bearDay_88 : decode cX3_bearDay 88 = .ok (.invokestatic 50, 3) := by decide +kernel
theorem dX3_bearDay_91 : decode cX3_bearDay 91 = .ok (.putfield 40, 3) := by decide +kernel
theorem dX3_bearDay_94 : decode cX3_bearDay 94 = .ok (.return_, 1) := by decide +kernel
theorem dX3_crackGrowth_0 : decode cX3_crackGrowth 0 = .ok (.aload_n 0, 1) := by decide +kernel
theorem dX3_crackGrowth_1 : decode cX3_crackGrowth 1 = .ok (.getfield 14, 3) := by decide +kernel
theorem dX3_crackGrowth_4 : decode cX3_crackGrowth 4 = .ok (.getfield 37, 3) := by decide +kernel
theorem dX3_crackGrowth_7 : decode cX3_crackGrowth 7 = .ok (.ifCond .le 16, 3) := by decide +kernel
theorem dX3_crackGrowth_10 : decode cX3_crackGrowth 10 = .ok (.iconst 1, 1) := by decide +kernel
theorem dX3_crackGrowth_11 : decode cX3_crackGrowth 11 = .ok (.aload_n 0, 1) := by decide +kernel
theorem dX3_crackGrowth_12 : decode cX3_crackGrowth 12 = .ok (.getfield 14, 3) := by decide +kernel
theorem dX3_crackGrowth_15 : decode cX3_crackGrowth 15 = .ok (.getfield 37, 3) := by decide +kernel
theorem dX3_crackGrowth_18 : decode cX3_crackGrowth 18 = .ok (.bipush 8, 2) := by decide +kernel
theorem dX3_crackGrowth_20 : decode cX3_crackGrowth 20 = .ok (.idiv, 1) := by decide +kernel
theorem dX3_crackGrowth_21 : decode cX3_crackGrowth 21 = .ok (.iadd, 1) := by decide +kernel
theorem dX3_crackGrowth_22 : decode cX3_crackGrowth 22 = .ok (.ireturn, 1) := by decide +kernel
theorem dX3_crackGrowth_23 : decode cX3_crackGrowth 23 = .ok (.aload_n 0, 1) := by decide +kernel
theorem dX3_crackGrowth_24 : decode cX3_crackGrowth 24 = .ok (.getfield 14, 3) := by decide +kernel
theorem dX3_crackGrowth_27 : decode cX3_crackGrowth 27 = .ok (.getfield 34, 3) := by decide +kernel
theorem dX3_crackGrowth_30 : decode cX3_crackGrowth 30 = .ok (.bipush 50, 2) := by decide +kernel
theorem dX3_crackGrowth_32 : decode cX3_crackGrowth 32 = .ok (.if_icmp .lt 7, 3) := by decide +kernel
theorem dX3_crackGrowth_35 : decode cX3_crackGrowth 35 = .ok (.iconst 1, 1) := by decide +kernel
theorem dX3_crackGrowth_36 : decode cX3_crackGrowth 36 = .ok (.goto 4, 3) := by decide +kernel
theorem dX3_crackGrowth_39 : decode cX3_crackGrowth 39 = .ok (.iconst 0, 1) := by decide +kernel
theorem dX3_crackGrowth_40 : decode cX3_crackGrowth 40 = .ok (.ireturn, 1) := by decide +kernel
theorem dX3_hoursFor_0 : decode cX3_hoursFor 0 = .ok (.aload_n 0, 1) := by decide +kernel
theorem dX3_hoursFor_1 : decode cX3_hoursFor 1 = .ok (.getfield 27, 3) := by decide +kernel
theorem dX3_hoursFor_4 : decode cX3_hoursFor 4 = .ok (.ifCond .eq 7, 3) := by decide +kernel
theorem dX3_hoursFor_7 : decode cX3_hoursFor 7 = .ok (.iconst 1, 1) := by decide +kernel
theorem dX3_hoursFor_8 : decode cX3_hoursFor 8 = .ok (.goto 4, 3) := by decide +kernel
theorem dX3_hoursFor_11 : decode cX3_hoursFor 11 = .ok (.iconst 0, 1) := by decide +kernel
theorem dX3_hoursFor_12 : decode cX3_hoursFor 12 = .ok (.istore_n 2, 1) := by decide +kernel
theorem dX3_hoursFor_13 : decode cX3_hoursFor 13 = .ok (.iload_n 1, 1) := by decide +kernel
theorem dX3_hoursFor_14 : decode cX3_hoursFor 14 = .ok (.lookupswitch 34 #[(0, 26), (1, 30)], 26) := by decide +kernel
theorem dX3_hoursFor_40 : decode cX3_hoursFor 40 = .ok (.iconst 1, 1) := by decide +kernel
theorem dX3_hoursFor_41 : decode cX3_hoursFor 41 = .ok (.iload_n 2, 1) := by decide +kernel
theorem dX3_hoursFor_42 : decode cX3_hoursFor 42 = .ok (.iadd, 1) := by decide +kernel
theorem dX3_hoursFor_43 : decode cX3_hoursFor 43 = .ok (.ireturn, 1) := by decide +kernel
theorem dX3_hoursFor_44 : decode cX3_hoursFor 44 = .ok (.iconst 2, 1) := by decide +kernel
theorem dX3_hoursFor_45 : decode cX3_hoursFor 45 = .ok (.iload_n 2, 1) := by decide +kernel
theorem dX3_hoursFor_46 : decode cX3_hoursFor 46 = .ok (.iadd, 1) := by decide +kernel
theorem dX3_hoursFor_47 : decode cX3_hoursFor 47 = .ok (.ireturn, 1) := by decide +kernel
theorem dX3_hoursFor_48 : decode cX3_hoursFor 48 = .ok (.iconst 4, 1) := by decide +kernel
theorem dX3_hoursFor_49 : decode cX3_hoursFor 49 = .ok (.iload_n 2, 1) := by decide +kernel
theorem dX3_hoursFor_50 : decode cX3_hoursFor 50 = .ok (.iadd, 1) := by decide +kernel
theorem dX3_hoursFor_51 : decode cX3_hoursFor 51 = .ok (.ireturn, 1) := by decide +kernel
theorem dX3_treat_0 : decode cX3_treat 0 = .ok (.iload_n 1, 1) := by decide +kernel
theorem dX3_treat_1 : decode cX3_treat 1 = .ok (.ifCond .ne 32, 3) := by decide +kernel
theorem dX3_treat_4 : decode cX3_treat 4 = .ok (.aload_n 0, 1) := by decide +kernel
theorem dX3_treat_5 : decode cX3_treat 5 = .ok (.getfield 14, 3) := by decide +kernel
theorem dX3_treat_8 : decode cX3_treat 8 = .ok (.aload_n 0, 1) := by decide +kernel
theorem dX3_treat_9 : decode cX3_treat 9 = .ok (.getfield 14, 3) := by decide +kernel
theorem dX3_treat_12 : decode cX3_treat 12 = .ok (.getfield 40, 3) := by decide +kernel
theorem dX3_treat_15 : decode cX3_treat 15 = .ok (.iconst 4, 1) := by decide +kernel
theorem dX3_treat_16 : decode cX3_treat 16 = .ok (.idiv, 1) := by decide +kernel
theorem dX3_treat_17 : decode cX3_treat 17 = .ok (.putfield 40, 3) := by decide +kernel
theorem dX3_treat_20 : decode cX3_treat 20 = .ok (.aload_n 0, 1) := by decide +kernel
theorem dX3_treat_21 : decode cX3_treat 21 = .ok (.dup, 1) := by decide +kernel
theorem dX3_treat_22 : decode cX3_treat 22 = .ok (.getfield 20, 3) := by decide +kernel
theorem dX3_treat_25 : decode cX3_treat 25 = .ok (.iconst 1, 1) := by decide +kernel
theorem dX3_treat_26 : decode cX3_treat 26 = .ok (.iadd, 1) := by decide +kernel
theorem dX3_treat_27 : decode cX3_treat 27 = .ok (.putfield 20, 3) := by decide +kernel
theorem dX3_treat_30 : decode cX3_treat 30 = .ok (.goto 97, 3) := by decide +kernel
theorem dX3_treat_33 : decode cX3_treat 33 = .ok (.iload_n 1, 1) := by decide +kernel
theorem dX3_treat_34 : decode cX3_treat 34 = .ok (.iconst 1, 1) := by decide +kernel
theorem dX3_treat_35 : decode cX3_treat 35 = .ok (.if_icmp .ne 48, 3) := by decide +kernel
theorem dX3_treat_38 : decode cX3_treat 38 = .ok (.aload_n 0, 1) := by decide +kernel
theorem dX3_treat_39 : decode cX3_treat 39 = .ok (.getfield 14, 3) := by decide +kernel
theorem dX3_treat_42 : decode cX3_treat 42 = .ok (.iconst 0, 1) := by decide +kernel
theorem dX3_treat_43 : decode cX3_treat 43 = .ok (.aload_n 0, 1) := by decide +kernel
theorem dX3_treat_44 : decode cX3_treat 44 = .ok (.getfield 14, 3) := by decide +kernel
theorem dX3_treat_47 : decode cX3_treat 47 = .ok (.getfield 37, 3) := by decide +kernel
theorem dX3_treat_50 : decode cX3_treat 50 = .ok (.bipush 8, 2) := by decide +kernel
theorem dX3_treat_52 : decode cX3_treat 52 = .ok (.isub, 1) := by decide +kernel
theorem dX3_treat_53 : decode cX3_treat 53 = .ok (.invokestatic 60, 3) := by decide +kernel
theorem dX3_treat_56 : decode cX3_treat 56 = .ok (.putfield 37, 3) := by decide +kernel
theorem dX3_treat_59 : decode cX3_treat 59 = .ok (.aload_n 0, 1) := by decide +kernel
theorem dX3_treat_60 : decode cX3_treat 60 = .ok (.getfield 14, 3) := by decide +kernel
theorem dX3_treat_63 : decode cX3_treat 63 = .ok (.bipush 100, 2) := by decide +kernel
theorem dX3_treat_65 : decode cX3_treat 65 = .ok (.aload_n 0, 1) := by decide +kernel
theorem dX3_treat_66 : decode cX3_treat 66 = .ok (.getfield 14, 3) := by decide +kernel
theorem dX3_treat_69 : decode cX3_treat 69 = .ok (.getfield 34, 3) := by decide +kernel
theorem dX3_treat_72 : decode cX3_treat 72 = .ok (.iconst 2, 1) := by decide +kernel
theorem dX3_treat_73 : decode cX3_treat 73 = .ok (.iadd, 1) := by decide +kernel
theorem dX3_treat_74 : decode cX3_treat 74 = .ok (.invokestatic 50, 3) := by decide +kernel
theorem dX3_treat_77 : decode cX3_treat 77 = .ok (.putfield 34, 3) := by decide +kernel
theorem dX3_treat_80 : decode cX3_treat 80 = .ok (.goto 47, 3) := by decide +kernel
theorem dX3_treat_83 : decode cX3_treat 83 = .ok (.aload_n 0, 1) := by decide +kernel
theorem dX3_treat_84 : decode cX3_treat 84 = .ok (.getfield 14, 3) := by decide +kernel
theorem dX3_treat_87 : decode cX3_treat 87 = .ok (.iconst 0, 1) := by decide +kernel
theorem dX3_treat_88 : decode cX3_treat 88 = .ok (.putfield 34, 3) := by decide +kernel
theorem dX3_treat_91 : decode cX3_treat 91 = .ok (.aload_n 0, 1) := by decide +kernel
theorem dX3_treat_92 : decode cX3_treat 92 = .ok (.getfield 14, 3) := by decide +kernel
theorem dX3_treat_95 : decode cX3_treat 95 = .ok (.iconst 0, 1) := by decide +kernel
theorem dX3_treat_96 : decode cX3_treat 96 = .ok (.putfield 37, 3) := by decide +kernel
theorem dX3_treat_99 : decode cX3_treat 99 = .ok (.aload_n 0, 1) := by decide +kernel
theorem dX3_treat_100 : decode cX3_treat 100 = .ok (.getfield 14, 3) := by decide +kernel
theorem dX3_treat_103 : decode cX3_treat 103 = .ok (.iconst 0, 1) := by decide +kernel
theorem dX3_treat_104 : decode cX3_treat 104 = .ok (.putfield 40, 3) := by decide +kernel
theorem dX3_treat_107 : decode cX3_treat 107 = .ok (.aload_n 0, 1) := by decide +kernel
theorem dX3_treat_108 : decode cX3_treat 108 = .ok (.iconst 0, 1) := by decide +kernel
theorem dX3_treat_109 : decode cX3_treat 109 = .ok (.putfield 20, 3) := by decide +kernel
theorem dX3_treat_112 : decode cX3_treat 112 = .ok (.aload_n 0, 1) := by decide +kernel
theorem dX3_treat_113 : decode cX3_treat 113 = .ok (.bipush 10, 2) := by decide +kernel
theorem dX3_treat_115 : decode cX3_treat 115 = .ok (.bipush 40, 2) := by decide +kernel
theorem dX3_treat_117 : decode cX3_treat 117 = .ok (.iload_n 2, 1) := by decide +kernel
theorem dX3_treat_118 : decode cX3_treat 118 = .ok (.invokestatic 50, 3) := by decide +kernel
theorem dX3_treat_121 : decode cX3_treat 121 = .ok (.invokestatic 60, 3) := by decide +kernel
theorem dX3_treat_124 : decode cX3_treat 124 = .ok (.putfield 24, 3) := by decide +kernel
theorem dX3_treat_127 : decode cX3_treat 127 = .ok (.return_, 1) := by decide +kernel
theorem dX4_init_0 : decode cX4_init 0 = .ok (.aload_n 0, 1) := by decide +kernel
theorem dX4_init_1 : decode cX4_init 1 = .ok (.invokespecial 3, 3) := by decide +kernel
theorem dX4_init_4 : decode cX4_init 4 = .ok (.aload_n 0, 1) := by decide +kernel
theorem dX4_init_5 : decode cX4_init 5 = .ok (.iload_n 1, 1) := by decide +kernel
theorem dX4_init_6 : decode cX4_init 6 = .ok (.putfield 9, 3) := by decide +kernel
theorem dX4_init_9 : decode cX4_init 9 = .ok (.aload_n 0, 1) := by decide +kernel
theorem dX4_init_10 : decode cX4_init 10 = .ok (.iload_n 2, 1) := by decide +kernel
theorem dX4_init_11 : decode cX4_init 11 = .ok (.putfield 15, 3) := by decide +kernel
theorem dX4_init_14 : decode cX4_init 14 = .ok (.aload_n 0, 1) := by decide +kernel
theorem dX4_init_15 : decode cX4_init 15 = .ok (.iload_n 3, 1) := by decide +kernel
theorem dX4_init_16 : decode cX4_init 16 = .ok (.putfield 18, 3) := by decide +kernel
theorem dX4_init_19 : decode cX4_init 19 = .ok (.return_, 1) := by decide +kernel
theorem dX4_speed_0 : decode cX4_speed 0 = .ok (.aload_n 0, 1) := by decide +kernel
theorem dX4_speed_1 : decode cX4_speed 1 = .ok (.invokevirtual 21, 3) := by decide +kernel
theorem dX4_speed_4 : decode cX4_speed 4 = .ok (.aload_n 0, 1) := by decide +kernel
theorem dX4_speed_5 : decode cX4_speed 5 = .ok (.invokevirtual 25, 3) := by decide +kernel
theorem dX4_speed_8 : decode cX4_speed 8 = .ok (.invokestatic 28, 3) := by decide +kernel
theorem dX4_speed_11 : decode cX4_speed 11 = .ok (.istore_n 2, 1) := by decide +kernel
theorem dX4_speed_12 : decode cX4_speed 12 = .ok (.iload_n 2, 1) := by decide +kernel
theorem dX4_speed_13 : decode cX4_speed 13 = .ok (.aload_n 0, 1) := by decide +kernel
theorem dX4_speed_14 : decode cX4_speed 14 = .ok (.invokevirtual 34, 3) := by decide +kernel
theorem dX4_speed_17 : decode cX4_speed 17 = .ok (.iload_n 1, 1) := by decide +kernel
theorem dX4_speed_18 : decode cX4_speed 18 = .ok (.invokestatic 37, 3) := by decide +kernel
theorem dX4_speed_21 : decode cX4_speed 21 = .ok (.invokestatic 28, 3) := by decide +kernel
theorem dX4_speed_24 : decode cX4_speed 24 = .ok (.invokestatic 28, 3) := by decide +kernel
theorem dX4_speed_27 : decode cX4_speed 27 = .ok (.ireturn, 1) := by decide +kernel
theorem dX4_decider_0 : decode cX4_decider 0 = .ok (.aload_n 0, 1) := by decide +kernel
theorem dX4_decider_1 : decode cX4_decider 1 = .ok (.iload_n 1, 1) := by decide +kernel
theorem dX4_decider_2 : decode cX4_decider 2 = .ok (.invokevirtual 41, 3) := by decide +kernel
theorem dX4_decider_5 : decode cX4_decider 5 = .ok (.istore_n 2, 1) := by decide +kernel
theorem dX4_decider_6 : decode cX4_decider 6 = .ok (.iload_n 2, 1) := by decide +kernel
theorem dX4_decider_7 : decode cX4_decider 7 = .ok (.sipush 160, 3) := by decide +kernel
theorem dX4_decider_10 : decode cX4_decider 10 = .ok (.if_icmp .ne 5, 3) := by decide +kernel
theorem dX4_decider_13 : decode cX4_decider 13 = .ok (.iconst 0, 1) := by decide +kernel
theorem dX4_decider_14 : decode cX4_decider 14 = .ok (.ireturn, 1) := by decide +kernel
theorem dX4_decider_15 : decode cX4_decider 15 = .ok (.aload_n 0, 1) := by decide +kernel
theorem dX4_decider_16 : decode cX4_decider 16 = .ok (.invokevirtual 21, 3) := by decide +kernel
theorem dX4_decider_19 : decode cX4_decider 19 = .ok (.iload_n 2, 1) := by decide +kernel
theorem dX4_decider_20 : decode cX4_decider 20 = .ok (.if_icmp .ne 5, 3) := by decide +kernel
theorem dX4_decider_23 : decode cX4_decider 23 = .ok (.iconst 1, 1) := by decide +kernel
theorem dX4_decider_24 : decode cX4_decider 24 = .ok (.ireturn, 1) := by decide +kernel
theorem dX4_decider_25 : decode cX4_decider 25 = .ok (.aload_n 0, 1) := by decide +kernel
theorem dX4_decider_26 : decode cX4_decider 26 = .ok (.invokevirtual 25, 3) := by decide +kernel
theorem dX4_decider_29 : decode cX4_decider 29 = .ok (.iload_n 2, 1) := by decide +kernel
theorem dX4_decider_30 : decode cX4_decider 30 = .ok (.if_icmp .ne 5, 3) := by decide +kernel
theorem dX4_decider_33 : decode cX4_decider 33 = .ok (.iconst 2, 1) := by decide +kernel
theorem dX4_decider_34 : decode cX4_decider 34 = .ok (.ireturn, 1) := by decide +kernel
theorem dX4_decider_35 : decode cX4_decider 35 = .ok (.aload_n 0, 1) := by decide +kernel
theorem dX4_decider_36 : decode cX4_decider 36 = .ok (.invokevirtual 34, 3) := by decide +kernel
theorem dX4_decider_39 : decode cX4_decider 39 = .ok (.iload_n 2, 1) := by decide +kernel
theorem dX4_decider_40 : decode cX4_decider 40 = .ok (.if_icmp .ne 7, 3) := by decide +kernel
theorem dX4_decider_43 : decode cX4_decider 43 = .ok (.iconst 3, 1) := by decide +kernel
theorem dX4_decider_44 : decode cX4_decider 44 = .ok (.goto 4, 3) := by decide +kernel
theorem dX4_decider_47 : decode cX4_decider 47 = .ok (.iconst 4, 1) := by decide +kernel
theorem dX4_decider_48 : decode cX4_decider 48 = .ok (.ireturn, 1) := by decide +kernel
theorem dX4_speedByWear_0 : decode cX4_speedByWear 0 = .ok (.aload_n 0, 1) := by decide +kernel
theorem dX4_speedByWear_1 : decode cX4_speedByWear 1 = .ok (.getfield 9, 3) := by decide +kernel
theorem dX4_speedByWear_4 : decode cX4_speedByWear 4 = .ok (.bipush 60, 2) := by decide +kernel
theorem dX4_speedByWear_6 : decode cX4_speedByWear 6 = .ok (.if_icmp .ge 7, 3) := by decide +kernel
theorem dX4_speedByWear_9 : decode cX4_speedByWear 9 = .ok (.sipush 160, 3) := by decide +kernel
theorem dX4_speedByWear_12 : decode cX4_speedByWear 12 = .ok (.ireturn, 1) := by decide +kernel
theorem dX4_speedByWear_13 : decode cX4_speedByWear 13 = .ok (.aload_n 0, 1) := by decide +kernel
theorem dX4_speedByWear_14 : decode cX4_speedByWear 14 = .ok (.getfield 9, 3) := by decide +kernel
theorem dX4_speedByWear_17 : decode cX4_speedByWear 17 = .ok (.bipush 80, 2) := by decide +kernel
theorem dX4_speedByWear_19 : decode cX4_speedByWear 19 = .ok (.if_icmp .ge 6, 3) := by decide +kernel
theorem dX4_speedByWear_22 : decode cX4_speedByWear 22 = .ok (.bipush 100, 2) := by decide +kernel
theorem dX4_speedByWear_24 : decode cX4_speedByWear 24 = .ok (.ireturn, 1) := by decide +kernel
theorem dX4_speedByWear_25 : decode cX4_speedByWear 25 = .ok (.aload_n 0, 1) := by decide +kernel
theorem dX4_speedByWear_26 : decode cX4_speedByWear 26 = .ok (.getfield 9, 3) := by decide +kernel
theorem dX4_speedByWear_29 : decode cX4_speedByWear 29 = .ok (.bipush 100, 2) := by decide +kernel
theorem dX4_speedByWear_31 : decode cX4_speedByWear 31 = .ok (.if_icmp .ge 8, 3) := by decide +kernel
theorem dX4_speedByWear_34 : decode cX4_speedByWear 34 = .ok (.bipush 60, 2) := by decide +kernel
theorem dX4_speedByWear_36 : decode cX4_speedByWear 36 = .ok (.goto 5, 3) := by decide +kernel
theorem dX4_speedByWear_39 : decode cX4_speedByWear 39 = .ok (.bipush 20, 2) := by decide +kernel
theorem dX4_speedByWear_41 : decode cX4_speedByWear 41 = .ok (.ireturn, 1) := by decide +kernel
theorem dX4_speedByCrack_0 : decode cX4_speedByCrack 0 = .ok (.aload_n 0, 1) := by decide +kernel
theorem dX4_speedByCrack_1 : decode cX4_speedByCrack 1 = .ok (.getfield 15, 3) := by decide +kernel
theorem dX4_speedByCrack_4 : decode cX4_speedByCrack 4 = .ok (.bipush 10, 2) := by decide +kernel
theorem dX4_speedByCrack_6 : decode cX4_speedByCrack 6 = .ok (.if_icmp .ge 7, 3) := by decide +kernel
theorem dX4_speedByCrack_9 : decode cX4_speedByCrack 9 = .ok (.sipush 160, 3) := by decide +kernel
theorem dX4_speedByCrack_12 : decode cX4_speedByCrack 12 = .ok (.ireturn, 1) := by decide +kernel
theorem dX4_speedByCrack_13 : decode cX4_speedByCrack 13 = .ok (.aload_n 0, 1) := by decide +kernel
theorem dX4_speedByCrack_14 : decode cX4_speedByCrack 14 = .ok (.getfield 15, 3) := by decide +kernel
theorem dX4_speedByCrack_17 : decode cX4_speedByCrack 17 = .ok (.bipush 20, 2) := by decide +kernel
theorem dX4_speedByCrack_19 : decode cX4_speedByCrack 19 = .ok (.if_icmp .ge 6, 3) := by decide +kernel
theorem dX4_speedByCrack_22 : decode cX4_speedByCrack 22 = .ok (.bipush 80, 2) := by decide +kernel
theorem dX4_speedByCrack_24 : decode cX4_speedByCrack 24 = .ok (.ireturn, 1) := by decide +kernel
theorem dX4_speedByCrack_25 : decode cX4_speedByCrack 25 = .ok (.aload_n 0, 1) := by decide +kernel
theorem dX4_speedByCrack_26 : decode cX4_speedByCrack 26 = .ok (.getfield 15, 3) := by decide +kernel
theorem dX4_speedByCrack_29 : decode cX4_speedByCrack 29 = .ok (.bipush 40, 2) := by decide +kernel
theorem dX4_speedByCrack_31 : decode cX4_speedByCrack 31 = .ok (.if_icmp .ge 8, 3) := by decide +kernel
theorem dX4_speedByCrack_34 : decode cX4_speedByCrack 34 = .ok (.bipush 40, 2) := by decide +kernel
theorem dX4_speedByCrack_36 : decode cX4_speedByCrack 36 = .ok (.goto 4, 3) := by decide +kernel
theorem dX4_speedByCrack_39 : decode cX4_speedByCrack 39 = .ok (.iconst 0, 1) := by decide +kernel
theorem dX4_speedByCrack_40 : decode cX4_speedByCrack 40 = .ok (.ireturn, 1) := by decide +kernel
theorem dX4_speedBySettle_0 : decode cX4_speedBySettle 0 = .ok (.aload_n 0, 1) := by decide +kernel
theorem dX4_speedBySettle_1 : decode cX4_speedBySettle 1 = .ok (.getfield 18, 3) := by decide +kernel
theorem dX4_speedBySettle_4 : decode cX4_speedBySettle 4 = .ok (.bipush 20, 2) := by decide +kernel
theorem dX4_speedBySettle_6 : decode cX4_speedBySettle 6 = .ok (.if_icmp .ge 7, 3) := by decide +kernel
theorem dX4_speedBySettle_9 : decode cX4_speedBySettle 9 = .ok (.sipush 160, 3) := by decide +kernel
theorem dX4_speedBySettle_12 : decode cX4_speedBySettle 12 = .ok (.ireturn, 1) := by decide +kernel
theorem dX4_speedBySettle_13 : decode cX4_speedBySettle 13 = .ok (.aload_n 0, 1) := by decide +kernel
theorem dX4_speedBySettle_14 : decode cX4_speedBySettle 14 = .ok (.getfield 18, 3) := by decide +kernel
theorem dX4_speedBySettle_17 : decode cX4_speedBySettle 17 = .ok (.bipush 30, 2) := by decide +kernel
theorem dX4_speedBySettle_19 : decode cX4_speedBySettle 19 = .ok (.if_icmp .ge 6, 3) := by decide +kernel
theorem dX4_speedBySettle_22 : decode cX4_speedBySettle 22 = .ok (.bipush 120, 2) := by decide +kernel
theorem dX4_speedBySettle_24 : decode cX4_speedBySettle 24 = .ok (.ireturn, 1) := by decide +kernel
theorem dX4_speedBySettle_25 : decode cX4_speedBySettle 25 = .ok (.aload_n 0, 1) := by decide +kernel
theorem dX4_speedBySettle_26 : decode cX4_speedBySettle 26 = .ok (.getfield 18, 3) := by decide +kernel
theorem dX4_speedBySettle_29 : decode cX4_speedBySettle 29 = .ok (.bipush 40, 2) := by decide +kernel
theorem dX4_speedBySettle_31 : decode cX4_speedBySettle 31 = .ok (.if_icmp .ge 6, 3) := by decide +kernel
theorem dX4_speedBySettle_34 : decode cX4_speedBySettle 34 = .ok (.bipush 80, 2) := by decide +kernel
theorem dX4_speedBySettle_36 : decode cX4_speedBySettle 36 = .ok (.ireturn, 1) := by decide +kernel
theorem dX4_speedBySettle_37 : decode cX4_speedBySettle 37 = .ok (.aload_n 0, 1) := by decide +kernel
theorem dX4_speedBySettle_38 : decode cX4_speedBySettle 38 = .ok (.getfield 18, 3) := by decide +kernel
theorem dX4_speedBySettle_41 : decode cX4_speedBySettle 41 = .ok (.bipush 50, 2) := by decide +kernel
theorem dX4_speedBySettle_43 : decode cX4_speedBySettle 43 = .ok (.if_icmp .ge 8, 3) := by decide +kernel
theorem dX4_speedBySettle_46 : decode cX4_speedBySettle 46 = .ok (.bipush 40, 2) := by decide +kernel
theorem dX4_speedBySettle_48 : decode cX4_speedBySettle 48 = .ok (.goto 5, 3) := by decide +kernel
theorem dX4_speedBySettle_51 : decode cX4_speedBySettle 51 = .ok (.bipush 10, 2) := by decide +kernel
theorem dX4_speedBySettle_53 : decode cX4_speedBySettle 53 = .ok (.ireturn, 1) := by decide +kernel
theorem dX4_speedByHeat_0 : decode cX4_speedByHeat 0 = .ok (.iload_n 0, 1) := by decide +kernel
theorem dX4_speedByHeat_1 : decode cX4_speedByHeat 1 = .ok (.bipush 30, 2) := by decide +kernel
theorem dX4_speedByHeat_3 : decode cX4_speedByHeat 3 = .ok (.if_icmp .le 6, 3) := by decide +kernel
theorem dX4_speedByHeat_6 : decode cX4_speedByHeat 6 = .ok (.bipush 40, 2) := by decide +kernel
theorem dX4_speedByHeat_8 : decode cX4_speedByHeat 8 = .ok (.ireturn, 1) := by decide +kernel
theorem dX4_speedByHeat_9 : decode cX4_speedByHeat 9 = .ok (.iload_n 0, 1) := by decide +kernel
theorem dX4_speedByHeat_10 : decode cX4_speedByHeat 10 = .ok (.bipush 20, 2) := by decide +kernel
theorem dX4_speedByHeat_12 : decode cX4_speedByHeat 12 = .ok (.if_icmp .le 6, 3) := by decide +kernel
theorem dX4_speedByHeat_15 : decode cX4_speedByHeat 15 = .ok (.bipush 80, 2) := by decide +kernel
theorem dX4_speedByHeat_17 : decode cX4_speedByHeat 17 = .ok (.ireturn, 1) := by decide +kernel
theorem dX4_speedByHeat_18 : decode cX4_speedByHeat 18 = .ok (.iload_n 0, 1) := by decide +kernel
theorem dX4_speedByHeat_19 : decode cX4_speedByHeat 19 = .ok (.bipush (-40), 2) := by decide +kernel
theorem dX4_speedByHeat_21 : decode cX4_speedByHeat 21 = .ok (.if_icmp .ge 8, 3) := by decide +kernel
theorem dX4_speedByHeat_24 : decode cX4_speedByHeat 24 = .ok (.bipush 100, 2) := by decide +kernel
theorem dX4_speedByHeat_26 : decode cX4_speedByHeat 26 = .ok (.goto 6, 3) := by decide +kernel
theorem dX4_speedByHeat_29 : decode cX4_speedByHeat 29 = .ok (.sipush 160, 3) := by decide +kernel
theorem dX4_speedByHeat_32 : decode cX4_speedByHeat 32 = .ok (.ireturn, 1) := by decide +kernel
theorem dX5_init_0 : decode cX5_init 0 = .ok (.aload_n 0, 1) := by decide +kernel
theorem dX5_init_1 : decode cX5_init 1 = .ok (.invokespecial 1, 3) := by decide +kernel
theorem dX5_init_4 : decode cX5_init 4 = .ok (.aload_n 0, 1) := by decide +kernel
theorem dX5_init_5 : decode cX5_init 5 = .ok (.aload_n 1, 1) := by decide +kernel
theorem dX5_init_6 : decode cX5_init 6 = .ok (.putfield 7, 3) := by decide +kernel
theorem dX5_init_9 : decode cX5_init 9 = .ok (.aload_n 0, 1) := by decide +kernel
theorem dX5_init_10 : decode cX5_init 10 = .ok (.aload_n 2, 1) := by decide +kernel
theorem dX5_init_11 : decode cX5_init 11 = .ok (.putfield 13, 3) := by decide +kernel
theorem dX5_init_14 : decode cX5_init 14 = .ok (.aload_n 0, 1) := by decide +kernel
theorem dX5_init_15 : decode cX5_init 15 = .ok (.iload_n 3, 1) := by decide +kernel
theorem dX5_init_16 : decode cX5_init 16 = .ok (.putfield 17, 3) := by decide +kernel
theorem dX5_init_19 : decode cX5_init 19 = .ok (.return_, 1) := by decide +kernel
theorem dX6_init_0 : decode cX6_init 0 = .ok (.aload_n 0, 1) := by decide +kernel
theorem dX6_init_1 : decode cX6_init 1 = .ok (.invokespecial 3, 3) := by decide +kernel
theorem dX6_init_4 : decode cX6_init 4 = .ok (.aload_n 0, 1) := by decide +kernel
theorem dX6_init_5 : decode cX6_init 5 = .ok (.bipush 20, 2) := by decide +kernel
theorem dX6_init_7 : decode cX6_init 7 = .ok (.anewarray 9, 3) := by decide +kernel
theorem dX6_init_10 : decode cX6_init 10 = .ok (.putfield 11, 3) := by decide +kernel
theorem dX6_init_13 : decode cX6_init 13 = .ok (.aload_n 0, 1) := by decide +kernel
theorem dX6_init_14 : decode cX6_init 14 = .ok (.new 15, 3) := by decide +kernel
theorem dX6_init_17 : decode cX6_init 17 = .ok (.dup, 1) := by decide +kernel
theorem dX6_init_18 : decode cX6_init 18 = .ok (.invokespecial 17, 3) := by decide +kernel
theorem dX6_init_21 : decode cX6_init 21 = .ok (.putfield 18, 3) := by decide +kernel
theorem dX6_init_24 : decode cX6_init 24 = .ok (.aload_n 0, 1) := by decide +kernel
theorem dX6_init_25 : decode cX6_init 25 = .ok (.new 15, 3) := by decide +kernel
theorem dX6_init_28 : decode cX6_init 28 = .ok (.dup, 1) := by decide +kernel
theorem dX6_init_29 : decode cX6_init 29 = .ok (.invokespecial 17, 3) := by decide +kernel
theorem dX6_init_32 : decode cX6_init 32 = .ok (.putfield 22, 3) := by decide +kernel
theorem dX6_init_35 : decode cX6_init 35 = .ok (.aload_n 0, 1) := by decide +kernel
theorem dX6_init_36 : decode cX6_init 36 = .ok (.new 15, 3) := by decide +kernel
theorem dX6_init_39 : decode cX6_init 39 = .ok (.dup, 1) := by decide +kernel
theorem dX6_init_40 : decode cX6_init 40 = .ok (.invokespecial 17, 3) := by decide +kernel
theorem dX6_init_43 : decode cX6_init 43 = .ok (.putfield 25, 3) := by decide +kernel
theorem dX6_init_46 : decode cX6_init 46 = .ok (.aload_n 0, 1) := by decide +kernel
theorem dX6_init_47 : decode cX6_init 47 = .ok (.new 28, 3) := by decide +kernel
theorem dX6_init_50 : decode cX6_init 50 = .ok (.dup, 1) := by decide +kernel
theorem dX6_init_51 : decode cX6_init 51 = .ok (.iconst 0, 1) := by decide +kernel
theorem dX6_init_52 : decode cX6_init 52 = .ok (.iconst 0, 1) := by decide +kernel
theorem dX6_init_53 : decode cX6_init 53 = .ok (.iconst 0, 1) := by decide +kernel
theorem dX6_init_54 : decode cX6_init 54 = .ok (.invokespecial 30, 3) := by decide +kernel
theorem dX6_init_57 : decode cX6_init 57 = .ok (.putfield 33, 3) := by decide +kernel
theorem dX6_init_60 : decode cX6_init 60 = .ok (.aload_n 0, 1) := by decide +kernel
theorem dX6_init_61 : decode cX6_init 61 = .ok (.new 9, 3) := by decide +kernel
theorem dX6_init_64 : decode cX6_init 64 = .ok (.dup, 1) := by decide +kernel
theorem dX6_init_65 : decode cX6_init 65 = .ok (.invokespecial 37, 3) := by decide +kernel
theorem dX6_init_68 : decode cX6_init 68 = .ok (.putfield 38, 3) := by decide +kernel
theorem dX6_init_71 : decode cX6_init 71 = .ok (.aload_n 0, 1) := by decide +kernel
theorem dX6_init_72 : decode cX6_init 72 = .ok (.iconst 0, 1) := by decide +kernel
theorem dX6_init_73 : decode cX6_init 73 = .ok (.putfield 42, 3) := by decide +kernel
theorem dX6_init_76 : decode cX6_init 76 = .ok (.aload_n 0, 1) := by decide +kernel
theorem dX6_init_77 : decode cX6_init 77 = .ok (.bipush 20, 2) := by decide +kernel
theorem dX6_init_79 : decode cX6_init 79 = .ok (.putfield 46, 3) := by decide +kernel
theorem dX6_init_82 : decode cX6_init 82 = .ok (.aload_n 0, 1) := by decide +kernel
theorem dX6_init_83 : decode cX6_init 83 = .ok (.iconst 0, 1) := by decide +kernel
theorem dX6_init_84 : decode cX6_init 84 = .ok (.putfield 49, 3) := by decide +kernel
theorem dX6_init_87 : decode cX6_init 87 = .ok (.aload_n 0, 1) := by decide +kernel
theorem dX6_init_88 : decode cX6_init 88 = .ok (.iconst 0, 1) := by decide +kernel
theorem dX6_init_89 : decode cX6_init 89 = .ok (.putfield 52, 3) := by decide +kernel
theorem dX6_init_92 : decode cX6_init 92 = .ok (.aload_n 0, 1) := by decide +kernel
theorem dX6_init_93 : decode cX6_init 93 = .ok (.iconst 0, 1) := by decide +kernel
theorem dX6_init_94 : decode cX6_init 94 = .ok (.putfield 55, 3) := by decide +kernel
theorem dX6_init_97 : decode cX6_init 97 = .ok (.aload_n 0, 1) := by decide +kernel
theorem dX6_init_98 : decode cX6_init 98 = .ok (.iconst 0, 1) := by decide +kernel
theorem dX6_init_99 : decode cX6_init 99 = .ok (.putfield 58, 3) := by decide +kernel
theorem dX6_init_102 : decode cX6_init 102 = .ok (.aload_n 0, 1) := by decide +kernel
theorem dX6_init_103 : decode cX6_init 103 = .ok (.iconst 0, 1) := by decide +kernel
theorem dX6_init_104 : decode cX6_init 104 = .ok (.putfield 61, 3) := by decide +kernel
theorem dX6_init_107 : decode cX6_init 107 = .ok (.iconst 0, 1) := by decide +kernel
theorem dX6_init_108 : decode cX6_init 108 = .ok (.istore_n 1, 1) := by decide +kernel
theorem dX6_init_109 : decode cX6_init 109 = .ok (.iload_n 1, 1) := by decide +kernel
theorem dX6_init_110 : decode cX6_init 110 = .ok (.bipush 20, 2) := by decide +kernel
theorem dX6_init_112 : decode cX6_init 112 = .ok (.if_icmp .ge 22, 3) := by decide +kernel
theorem dX6_init_115 : decode cX6_init 115 = .ok (.aload_n 0, 1) := by decide +kernel
theorem dX6_init_116 : decode cX6_init 116 = .ok (.getfield 11, 3) := by decide +kernel
theorem dX6_init_119 : decode cX6_init 119 = .ok (.iload_n 1, 1) := by decide +kernel
theorem dX6_init_120 : decode cX6_init 120 = .ok (.new 9, 3) := by decide +kernel
theorem dX6_init_123 : decode cX6_init 123 = .ok (.dup, 1) := by decide +kernel
theorem dX6_init_124 : decode cX6_init 124 = .ok (.invokespecial 37, 3) := by decide +kernel
theorem dX6_init_127 : decode cX6_init 127 = .ok (.aastore, 1) := by decide +kernel
theorem dX6_init_128 : decode cX6_init 128 = .ok (.iinc 1 1, 3) := by decide +kernel
theorem dX6_init_131 : decode cX6_init 131 = .ok (.goto (-22), 3) := by decide +kernel
theorem dX6_init_134 : decode cX6_init 134 = .ok (.return_, 1) := by decide +kernel
theorem dX6_curve_0 : decode cX6_curve 0 = .ok (.aload_n 0, 1) := by decide +kernel
theorem dX6_curve_1 : decode cX6_curve 1 = .ok (.iload_n 1, 1) := by decide +kernel
theorem dX6_curve_2 : decode cX6_curve 2 = .ok (.invokevirtual 64, 3) := by decide +kernel
theorem dX6_curve_5 : decode cX6_curve 5 = .ok (.astore_n 3, 1) := by decide +kernel
theorem dX6_curve_6 : decode cX6_curve 6 = .ok (.aload_n 3, 1) := by decide +kernel
theorem dX6_curve_7 : decode cX6_curve 7 = .ok (.getfield 68, 3) := by decide +kernel
theorem dX6_curve_10 : decode cX6_curve 10 = .ok (.istore 4, 2) := by decide +kernel
theorem dX6_curve_12 : decode cX6_curve 12 = .ok (.aload_n 3, 1) := by decide +kernel
theorem dX6_curve_13 : decode cX6_curve 13 = .ok (.iload_n 2, 1) := by decide +kernel
theorem dX6_curve_14 : decode cX6_curve 14 = .ok (.putfield 68, 3) := by decide +kernel
theorem dX6_curve_17 : decode cX6_curve 17 = .ok (.iload 4, 2) := by decide +kernel
theorem dX6_curve_19 : decode cX6_curve 19 = .ok (.ireturn, 1) := by decide +kernel
theorem dX6_sign_0 : decode cX6_sign 0 = .ok (.aload_n 0, 1) := by decide +kernel
theorem dX6_sign_1 : decode cX6_sign 1 = .ok (.iload_n 1, 1) := by decide +kernel
theorem dX6_sign_2 : decode cX6_sign 2 = .ok (.invokevirtual 64, 3) := by decide +kernel
theorem dX6_sign_5 : decode cX6_sign 5 = .ok (.astore_n 3, 1) := by decide +kernel
theorem dX6_sign_6 : decode cX6_sign 6 = .ok (.iload_n 2, 1) := by decide +kernel
theorem dX6_sign_7 : decode cX6_sign 7 = .ok (.ifCond .lt 10, 3) := by decide +kernel
theorem dX6_sign_10 : decode cX6_sign 10 = .ok (.iload_n 2, 1) := by decide +kernel
theorem dX6_sign_11 : decode cX6_sign 11 = .ok (.sipush 160, 3) := by decide +kernel
theorem dX6_sign_14 : decode cX6_sign 14 = .ok (.if_icmp .le 13, 3) := by decide +kernel
theorem dX6_sign_17 : decode cX6_sign 17 = .ok (.new 72, 3) := by decide +kernel
theorem dX6_sign_20 : decode cX6_sign 20 = .ok (.dup, 1) := by decide +kernel
theorem dX6_sign_21 : decode cX6_sign 21 = .ok (.ldc 74, 2) := by decide +kernel
theorem dX6_sign_23 : decode cX6_sign 23 = .ok (.invokespecial 76, 3) := by decide +kernel
theorem dX6_sign_26 : decode cX6_sign 26 = .ok (.athrow, 1) := by decide +kernel
theorem dX6_sign_27 : decode cX6_sign 27 = .ok (.aload_n 3, 1) := by decide +kernel
theorem dX6_sign_28 : decode cX6_sign 28 = .ok (.getfield 79, 3) := by decide +kernel
theorem dX6_sign_31 : decode cX6_sign 31 = .ok (.istore 4, 2) := by decide +kernel
theorem dX6_sign_33 : decode cX6_sign 33 = .ok (.aload_n 3, 1) := by decide +kernel
theorem dX6_sign_34 : decode cX6_sign 34 = .ok (.iload_n 2, 1) := by decide +kernel
theorem dX6_sign_35 : decode cX6_sign 35 = .ok (.putfield 79, 3) := by decide +kernel
theorem dX6_sign_38 : decode cX6_sign 38 = .ok (.iload 4, 2) := by decide +kernel
theorem dX6_sign_40 : decode cX6_sign 40 = .ok (.ireturn, 1) := by decide +kernel
theorem dX6_pass_0 : decode cX6_pass 0 = .ok (.aload_n 0, 1) := by decide +kernel
theorem dX6_pass_1 : decode cX6_pass 1 = .ok (.iload_n 1, 1) := by decide +kernel
theorem dX6_pass_2 : decode cX6_pass 2 = .ok (.invokevirtual 82, 3) := by decide +kernel
theorem dX6_pass_5 : decode cX6_pass 5 = .ok (.iload_n 2, 1) := by decide +kernel
theorem dX6_pass_6 : decode cX6_pass 6 = .ok (.bipush (-20), 2) := by decide +kernel
theorem dX6_pass_8 : decode cX6_pass 8 = .ok (.if_icmp .lt 9, 3) := by decide +kernel
theorem dX6_pass_11 : decode cX6_pass 11 = .ok (.iload_n 2, 1) := by decide +kernel
theorem dX6_pass_12 : decode cX6_pass 12 = .ok (.bipush 60, 2) := by decide +kernel
theorem dX6_pass_14 : decode cX6_pass 14 = .ok (.if_icmp .le 13, 3) := by decide +kernel
theorem dX6_pass_17 : decode cX6_pass 17 = .ok (.new 72, 3) := by decide +kernel
theorem dX6_pass_20 : decode cX6_pass 20 = .ok (.dup, 1) := by decide +kernel
theorem dX6_pass_21 : decode cX6_pass 21 = .ok (.ldc 86, 2) := by decide +kernel
theorem dX6_pass_23 : decode cX6_pass 23 = .ok (.invokespecial 76, 3) := by decide +kernel
theorem dX6_pass_26 : decode cX6_pass 26 = .ok (.athrow, 1) := by decide +kernel
theorem dX6_pass_27 : decode cX6_pass 27 = .ok (.iload_n 3, 1) := by decide +kernel
theorem dX6_pass_28 : decode cX6_pass 28 = .ok (.iconst 1, 1) := by decide +kernel
theorem dX6_pass_29 : decode cX6_pass 29 = .ok (.if_icmp .lt 9, 3) := by decide +kernel
theorem dX6_pass_32 : decode cX6_pass 32 = .ok (.iload_n 3, 1) := by decide +kernel
theorem dX6_pass_33 : decode cX6_pass 33 = .ok (.bipush 60, 2) := by decide +kernel
theorem dX6_pass_35 : decode cX6_pass 35 = .ok (.if_icmp .le 13, 3) := by decide +kernel
theorem dX6_pass_38 : decode cX6_pass 38 = .ok (.new 72, 3) := by decide +kernel
theorem dX6_pass_41 : decode cX6_pass 41 = .ok (.dup, 1) := by decide +kernel
theorem dX6_pass_42 : decode cX6_pass 42 = .ok (.ldc 88, 2) := by decide +kernel
theorem dX6_pass_44 : decode cX6_pass 44 = .ok (.invokespecial 76, 3) := by decide +kernel
theorem dX6_pass_47 : decode cX6_pass 47 = .ok (.athrow, 1) := by decide +kernel
theorem dX6_pass_48 : decode cX6_pass 48 = .ok (.aload_n 0, 1) := by decide +kernel
theorem dX6_pass_49 : decode cX6_pass 49 = .ok (.getfield 42, 3) := by decide +kernel
theorem dX6_pass_52 : decode cX6_pass 52 = .ok (.iload_n 3, 1) := by decide +kernel
theorem dX6_pass_53 : decode cX6_pass 53 = .ok (.iadd, 1) := by decide +kernel
theorem dX6_pass_54 : decode cX6_pass 54 = .ok (.sipush 2000, 3) := by decide +kernel
theorem dX6_pass_57 : decode cX6_pass 57 = .ok (.if_icmp .le 13, 3) := by decide +kernel
theorem dX6_pass_60 : decode cX6_pass 60 = .ok (.new 90, 3) := by decide +kernel
theorem dX6_pass_63 : decode cX6_pass 63 = .ok (.dup, 1) := by decide +kernel
theorem dX6_pass_64 : decode cX6_pass 64 = .ok (.ldc 92, 2) := by decide +kernel
theorem dX6_pass_66 : decode cX6_pass 66 = .ok (.invokespecial 94, 3) := by decide +kernel
theorem dX6_pass_69 : decode cX6_pass 69 = .ok (.athrow, 1) := by decide +kernel
theorem dX6_pass_70 : decode cX6_pass 70 = .ok (.aload_n 0, 1) := by decide +kernel
theorem dX6_pass_71 : decode cX6_pass 71 = .ok (.getfield 52, 3) := by decide +kernel
theorem dX6_pass_74 : decode cX6_pass 74 = .ok (.istore 4, 2) := by decide +kernel
theorem dX6_pass_76 : decode cX6_pass 76 = .ok (.iconst 0, 1) := by decide +kernel
theorem dX6_pass_77 : decode cX6_pass 77 = .ok (.istore 5, 2) := by decide +kernel
theorem dX6_pass_79 : decode cX6_pass 79 = .ok (.iload 5, 2) := by decide +kernel
theorem dX6_pass_81 : decode cX6_pass 81 = .ok (.iload_n 3, 1) := by decide +kernel
theorem dX6_pass_82 : decode cX6_pass 82 = .ok (.if_icmp .ge 15, 3) := by decide +kernel
theorem dX6_pass_85 : decode cX6_pass 85 = .ok (.aload_n 0, 1) := by decide +kernel
theorem dX6_pass_86 : decode cX6_pass 86 = .ok (.iload_n 1, 1) := by decide +kernel
theorem dX6_pass_87 : decode cX6_pass 87 = .ok (.iload_n 2, 1) := by decide +kernel
theorem dX6_pass_88 : decode cX6_pass 88 = .ok (.invokevirtual 95, 3) := by decide +kernel
theorem dX6_pass_91 : decode cX6_pass 91 = .ok (.iinc 5 1, 3) := by decide +kernel
theorem dX6_pass_94 : decode cX6_pass 94 = .ok (.goto (-15), 3) := by decide +kernel
theorem dX6_pass_97 : decode cX6_pass 97 = .ok (.aload_n 0, 1) := by decide +kernel
theorem dX6_pass_98 : decode cX6_pass 98 = .ok (.getfield 52, 3) := by decide +kernel
theorem dX6_pass_101 : decode cX6_pass 101 = .ok (.iload 4, 2) := by decide +kernel
theorem dX6_pass_103 : decode cX6_pass 103 = .ok (.isub, 1) := by decide +kernel
theorem dX6_pass_104 : decode cX6_pass 104 = .ok (.ireturn, 1) := by decide +kernel
theorem dX6_measure_0 : decode cX6_measure 0 = .ok (.aload_n 0, 1) := by decide +kernel
theorem dX6_measure_1 : decode cX6_measure 1 = .ok (.iload_n 1, 1) := by decide +kernel
theorem dX6_measure_2 : decode cX6_measure 2 = .ok (.iload_n 2, 1) := by decide +kernel
theorem dX6_measure_3 : decode cX6_measure 3 = .ok (.iload_n 3, 1) := by decide +kernel
theorem dX6_measure_4 : decode cX6_measure 4 = .ok (.invokevirtual 99, 3) := by decide +kernel
theorem dX6_measure_7 : decode cX6_measure 7 = .ok (.iload 4, 2) := by decide +kernel
theorem dX6_measure_9 : decode cX6_measure 9 = .ok (.bipush (-2), 2) := by decide +kernel
theorem dX6_measure_11 : decode cX6_measure 11 = .ok (.if_icmp .lt 9, 3) := by decide +kernel
theorem dX6_measure_14 : decode cX6_measure 14 = .ok (.iload 4, 2) := by decide +kernel
theorem dX6_measure_16 : decode cX6_measure 16 = .ok (.iconst 2, 1) := by decide +kernel
theorem dX6_measure_17 : decode cX6_measure 17 = .ok (.if_icmp .le 13, 3) := by decide +kernel
theorem dX6_measure_20 : decode cX6_measure 20 = .ok (.new 72, 3) := by decide +kernel
theorem dX6_measure_23 : decode cX6_measure 23 = .ok (.dup, 1) := by decide +kernel
theorem dX6_measure_24 : decode cX6_measure 24 = .ok (.ldc 102, 2) := by decide +kernel
theorem dX6_measure_26 : decode cX6_measure 26 = .ok (.invokespecial 76, 3) := by decide +kernel
theorem dX6_measure_29 : decode cX6_measure 29 = .ok (.athrow, 1) := by decide +kernel
theorem dX6_measure_30 : decode cX6_measure 30 = .ok (.aload_n 0, 1) := by decide +kernel
theorem dX6_measure_31 : decode cX6_measure 31 = .ok (.getfield 18, 3) := by decide +kernel
theorem dX6_measure_34 : decode cX6_measure 34 = .ok (.invokevirtual 104, 3) := by decide +kernel
theorem dX6_measure_37 : decode cX6_measure 37 = .ok (.bipush 12, 2) := by decide +kernel
theorem dX6_measure_39 : decode cX6_measure 39 = .ok (.if_icmp .lt 13, 3) := by decide +kernel
theorem dX6_measure_42 : decode cX6_measure 42 = .ok (.new 90, 3) := by decide +kernel
theorem dX6_measure_45 : decode cX6_measure 45 = .ok (.dup, 1) := by decide +kernel
theorem dX6_measure_46 : decode cX6_measure 46 = .ok (.ldc 108, 2) := by decide +kernel
theorem dX6_measure_48 : decode cX6_measure 48 = .ok (.invokespecial 94, 3) := by decide +kernel
theorem dX6_measure_51 : decode cX6_measure 51 = .ok (.athrow, 1) := by decide +kernel
theorem dX6_measure_52 : decode cX6_measure 52 = .ok (.new 110, 3) := by decide +kernel
theorem dX6_measure_55 : decode cX6_measure 55 = .ok (.dup, 1) := by decide +kernel
theorem dX6_measure_56 : decode cX6_measure 56 = .ok (.iload_n 1, 1) := by decide +kernel
theorem dX6_measure_57 : decode cX6_measure 57 = .ok (.iload 4, 2) := by decide +kernel
theorem dX6_measure_59 : decode cX6_measure 59 = .ok (.invokespecial 112, 3) := by decide +kernel
theorem dX6_measure_62 : decode cX6_measure 62 = .ok (.astore 5, 2) := by decide +kernel
theorem dX6_measure_64 : decode cX6_measure 64 = .ok (.iload_n 2, 1) := by decide +kernel
theorem dX6_measure_65 : decode cX6_measure 65 = .ok (.istore 6, 2) := by decide +kernel
theorem dX6_measure_67 : decode cX6_measure 67 = .ok (.iload 6, 2) := by decide +kernel
theorem dX6_measure_69 : decode cX6_measure 69 = .ok (.iload_n 3, 1) := by decide +kernel
theorem dX6_measure_70 : decode cX6_measure 70 = .ok (.if_icmp .gt 50, 3) := by decide +kernel
theorem dX6_measure_73 : decode cX6_measure 73 = .ok (.iload 6, 2) := by decide +kernel
theorem dX6_measure_75 : decode cX6_measure 75 = .ok (.iload 4, 2) := by decide +kernel
theorem dX6_measure_77 : decode cX6_measure 77 = .ok (.iadd, 1) := by decide +kernel
theorem dX6_measure_78 : decode cX6_measure 78 = .ok (.istore 7, 2) := by decide +kernel
theorem dX6_measure_80 : decode cX6_measure 80 = .ok (.iload 7, 2) := by decide +kernel
theorem dX6_measure_82 : decode cX6_measure 82 = .ok (.ifCond .lt 32, 3) := by decide +kernel
theorem dX6_measure_85 : decode cX6_measure 85 = .ok (.iload 7, 2) := by decide +kernel
theorem dX6_measure_87 : decode cX6_measure 87 = .ok (.bipush 10, 2) := by decide +kernel
theorem dX6_measure_89 : decode cX6_measure 89 = .ok (.if_icmp .ge 25, 3) := by decide +kernel
theorem dX6_measure_92 : decode cX6_measure 92 = .ok (.aload 5, 2) := by decide +kernel
theorem dX6_measure_94 : decode cX6_measure 94 = .ok (.iload 6, 2) := by decide +kernel
theorem dX6_measure_96 : decode cX6_measure 96 = .ok (.aload_n 0, 1) := by decide +kernel
theorem dX6_measure_97 : decode cX6_measure 97 = .ok (.getfield 11, 3) := by decide +kernel
theorem dX6_measure_100 : decode cX6_measure 100 = .ok (.iload_n 1, 1) := by decide +kernel
theorem dX6_measure_101 : decode cX6_measure 101 = .ok (.bipush 10, 2) := by decide +kernel
theorem dX6_measure_103 : decode cX6_measure 103 = .ok (.imul, 1) := by decide +kernel
theorem dX6_measure_104 : decode cX6_measure 104 = .ok (.iload 7, 2) := by decide +kernel
theorem dX6_measure_106 : decode cX6_measure 106 = .ok (.iadd, 1) := by decide +kernel
theorem dX6_measure_107 : decode cX6_measure 107 = .ok (.aaload, 1) := by decide +kernel
theorem dX6_measure_108 : decode cX6_measure 108 = .ok (.getfield 114, 3) := by decide +kernel
theorem dX6_measure_111 : decode cX6_measure 111 = .ok (.invokevirtual 117, 3) := by decide +kernel
theorem dX6_measure_114 : decode cX6_measure 114 = .ok (.iinc 6 1, 3) := by decide +kernel
theorem dX6_measure_117 : decode cX6_measure 117 = .ok (.goto (-50), 3) := by decide +kernel
theorem dX6_measure_120 : decode cX6_measure 120 = .ok (.aload_n 0, 1) := by decide +kernel
theorem dX6_measure_121 : decode cX6_measure 121 = .ok (.getfield 18, 3) := by decide +kernel
theorem dX6_measure_124 : decode cX6_measure 124 = .ok (.aload 5, 2) := by decide +kernel
theorem dX6_measure_126 : decode cX6_measure 126 = .ok (.invokevirtual 121, 3) := by decide +kernel
theorem dX6_measure_129 : decode cX6_measure 129 = .ok (.pop, 1) := by decide +kernel
theorem dX6_measure_130 : decode cX6_measure 130 = .ok (.aload_n 0, 1) := by decide +kernel
theorem dX6_measure_131 : decode cX6_measure 131 = .ok (.getfield 18, 3) := by decide +kernel
theorem dX6_measure_134 : decode cX6_measure 134 = .ok (.invokevirtual 104, 3) := by decide +kernel
theorem dX6_measure_137 : decode cX6_measure 137 = .ok (.iconst 1, 1) := by decide +kernel
theorem dX6_measure_138 : decode cX6_measure 138 = .ok (.isub, 1) := by decide +kernel
theorem dX6_measure_139 : decode cX6_measure 139 = .ok (.ireturn, 1) := by decide +kernel
theorem dX6_align_0 : decode cX6_align 0 = .ok (.iload_n 1, 1) := by decide +kernel
theorem dX6_align_1 : decode cX6_align 1 = .ok (.ifCond .lt 14, 3) := by decide +kernel
theorem dX6_align_4 : decode cX6_align 4 = .ok (.iload_n 1, 1) := by decide +kernel
theorem dX6_align_5 : decode cX6_align 5 = .ok (.aload_n 0, 1) := by decide +kernel
theorem dX6_align_6 : decode cX6_align 6 = .ok (.getfield 18, 3) := by decide +kernel
theorem dX6_align_9 : decode cX6_align 9 = .ok (.invokevirtual 104, 3) := by decide +kernel
theorem dX6_align_12 : decode cX6_align 12 = .ok (.if_icmp .lt 13, 3) := by decide +kernel
theorem dX6_align_15 : decode cX6_align 15 = .ok (.new 125, 3) := by decide +kernel
theorem dX6_align_18 : decode cX6_align 18 = .ok (.dup, 1) := by decide +kernel
theorem dX6_align_19 : decode cX6_align 19 = .ok (.ldc 127, 2) := by decide +kernel
theorem dX6_align_21 : decode cX6_align 21 = .ok (.invokespecial 129, 3) := by decide +kernel
theorem dX6_align_24 : decode cX6_align 24 = .ok (.athrow, 1) := by decide +kernel
theorem dX6_align_25 : decode cX6_align 25 = .ok (.aload_n 0, 1) := by decide +kernel
theorem dX6_align_26 : decode cX6_align 26 = .ok (.getfield 18, 3) := by decide +kernel
theorem dX6_align_29 : decode cX6_align 29 = .ok (.iload_n 1, 1) := by decide +kernel
theorem dX6_align_30 : decode cX6_align 30 = .ok (.invokevirtual 130, 3) := by decide +kernel
theorem dX6_align_33 : decode cX6_align 33 = .ok (.checkcast 110, 3) := by decide +kernel
theorem dX6_align_36 : decode cX6_align 36 = .ok (.astore_n 2, 1) := by decide +kernel
theorem dX6_align_37 : decode cX6_align 37 = .ok (.aload_n 2, 1) := by decide +kernel
theorem dX6_align_38 : decode cX6_align 38 = .ok (.getfield 134, 3) := by decide +kernel
theorem dX6_align_41 : decode cX6_align 41 = .ok (.ifCond .eq 13, 3) := by decide +kernel
theorem dX6_align_44 : decode cX6_align 44 = .ok (.new 90, 3) := by decide +kernel
theorem dX6_align_47 : decode cX6_align 47 = .ok (.dup, 1) := by decide +kernel
theorem dX6_align_48 : decode cX6_align 48 = .ok (.ldc 137, 2) := by decide +kernel
theorem dX6_align_50 : decode cX6_align 50 = .ok (.invokespecial 94, 3) := by decide +kernel
theorem dX6_align_53 : decode cX6_align 53 = .ok (.athrow, 1) := by decide +kernel
theorem dX6_align_54 : decode cX6_align 54 = .ok (.aload_n 2, 1) := by decide +kernel
theorem dX6_align_55 : decode cX6_align 55 = .ok (.iconst 1, 1) := by decide +kernel
theorem dX6_align_56 : decode cX6_align 56 = .ok (.putfield 134, 3) := by decide +kernel
theorem dX6_align_59 : decode cX6_align 59 = .ok (.aload_n 2, 1) := by decide +kernel
theorem dX6_align_60 : decode cX6_align 60 = .ok (.getfield 139, 3) := by decide +kernel
theorem dX6_align_63 : decode cX6_align 63 = .ok (.ireturn, 1) := by decide +kernel
theorem dX6_machine_0 : decode cX6_machine 0 = .ok (.iload_n 1, 1) := by decide +kernel
theorem dX6_machine_1 : decode cX6_machine 1 = .ok (.ifCond .lt 8, 3) := by decide +kernel
theorem dX6_machine_4 : decode cX6_machine 4 = .ok (.iload_n 1, 1) := by decide +kernel
theorem dX6_machine_5 : decode cX6_machine 5 = .ok (.iconst 2, 1) := by decide +kernel
theorem dX6_machine_6 : decode cX6_machine 6 = .ok (.if_icmp .le 13, 3) := by decide +kernel
theorem dX6_machine_9 : decode cX6_machine 9 = .ok (.new 72, 3) := by decide +kernel
theorem dX6_machine_12 : decode cX6_machine 12 = .ok (.dup, 1) := by decide +kernel
theorem dX6_machine_13 : decode cX6_machine 13 = .ok (.ldc 142, 2) := by decide +kernel
theorem dX6_machine_15 : decode cX6_machine 15 = .ok (.invokespecial 76, 3) := by decide +kernel
theorem dX6_machine_18 : decode cX6_machine 18 = .ok (.athrow, 1) := by decide +kernel
theorem dX6_machine_19 : decode cX6_machine 19 = .ok (.iload_n 2, 1) := by decide +kernel
theorem dX6_machine_20 : decode cX6_machine 20 = .ok (.ifCond .lt 9, 3) := by decide +kernel
theorem dX6_machine_23 : decode cX6_machine 23 = .ok (.iload_n 2, 1) := by decide +kernel
theorem dX6_machine_24 : decode cX6_machine 24 = .ok (.bipush 99, 2) := by decide +kernel
theorem dX6_machine_26 : decode cX6_machine 26 = .ok (.if_icmp .le 13, 3) := by decide +kernel
theorem dX6_machine_29 : decode cX6_machine 29 = .ok (.new 72, 3) := by decide +kernel
theorem dX6_machine_32 : decode cX6_machine 32 = .ok (.dup, 1) := by decide +kernel
theorem dX6_machine_33 : decode cX6_machine 33 = .ok (.ldc 144, 2) := by decide +kernel
theorem dX6_machine_35 : decode cX6_machine 35 = .ok (.invokespecial 76, 3) := by decide +kernel
theorem dX6_machine_38 : decode cX6_machine 38 = .ok (.athrow, 1) := by decide +kernel
theorem dX6_machine_39 : decode cX6_machine 39 = .ok (.aload_n 0, 1) := by decide +kernel
theorem dX6_machine_40 : decode cX6_machine 40 = .ok (.getfield 22, 3) := by decide +kernel
theorem dX6_machine_43 : decode cX6_machine 43 = .ok (.invokevirtual 104, 3) := by decide +kernel
theorem dX6_machine_46 : decode cX6_machine 46 = .ok (.iconst 4, 1) := by decide +kernel
theorem dX6_machine_47 : decode cX6_machine 47 = .ok (.if_icmp .lt 13, 3) := by decide +kernel
theorem dX6_machine_50 : decode cX6_machine 50 = .ok (.new 90, 3) := by decide +kernel
theorem dX6_machine_53 : decode cX6_machine 53 = .ok (.dup, 1) := by decide +kernel
theorem dX6_machine_54 : decode cX6_machine 54 = .ok (.ldc 146, 2) := by decide +kernel
theorem dX6_machine_56 : decode cX6_machine 56 = .ok (.invokespecial 94, 3) := by decide +kernel
theorem dX6_machine_59 : decode cX6_machine 59 = .ok (.athrow, 1) := by decide +kernel
theorem dX6_machine_60 : decode cX6_machine 60 = .ok (.aload_n 0, 1) := by decide +kernel
theorem dX6_machine_61 : decode cX6_machine 61 = .ok (.getfield 22, 3) := by decide +kernel
theorem dX6_machine_64 : decode cX6_machine 64 = .ok (.new 148, 3) := by decide +kernel
theorem dX6_machine_67 : decode cX6_machine 67 = .ok (.dup, 1) := by decide +kernel
theorem dX6_machine_68 : decode cX6_machine 68 = .ok (.iload_n 1, 1) := by decide +kernel
theorem dX6_machine_69 : decode cX6_machine 69 = .ok (.iload_n 2, 1) := by decide +kernel
theorem dX6_machine_70 : decode cX6_machine 70 = .ok (.invokespecial 150, 3) := by decide +kernel
theorem dX6_machine_73 : decode cX6_machine 73 = .ok (.invokevirtual 121, 3) := by decide +kernel
theorem dX6_machine_76 : decode cX6_machine 76 = .ok (.pop, 1) := by decide +kernel
theorem dX6_machine_77 : decode cX6_machine 77 = .ok (.aload_n 0, 1) := by decide +kernel
theorem dX6_machine_78 : decode cX6_machine 78 = .ok (.getfield 22, 3) := by decide +kernel
theorem dX6_machine_81 : decode cX6_machine 81 = .ok (.invokevirtual 104, 3) := by decide +kernel
theorem dX6_machine_84 : decode cX6_machine 84 = .ok (.iconst 1, 1) := by decide +kernel
theorem dX6_machine_85 : decode cX6_machine 85 = .ok (.isub, 1) := by decide +kernel
theorem dX6_machine_86 : decode cX6_machine 86 = .ok (.ireturn, 1) := by decide +kernel
theorem dX6_service_0 : decode cX6_service 0 = .ok (.aload_n 0, 1) := by decide +kernel
theorem dX6_service_1 : decode cX6_service 1 = .ok (.iload_n 1, 1) := by decide +kernel
theorem dX6_service_2 : decode cX6_service 2 = .ok (.invokevirtual 151, 3) := by decide +kernel
theorem dX6_service_5 : decode cX6_service 5 = .ok (.astore_n 2, 1) := by decide +kernel
theorem dX6_service_6 : decode cX6_service 6 = .ok (.aload_n 0, 1) := by decide +kernel
theorem dX6_service_7 : decode cX6_service 7 = .ok (.aload_n 2, 1) := by decide +kernel
theorem dX6_service_8 : decode cX6_service 8 = .ok (.invokevirtual 155, 3) := by decide +kernel
theorem dX6_service_11 : decode cX6_service 11 = .ok (.ifCond .eq 13, 3) := by decide +kernel
theorem dX6_service_14 : decode cX6_service 14 = .ok (.new 90, 3) := by decide +kernel
theorem dX6_service_17 : decode cX6_service 17 = .ok (.dup, 1) := by decide +kernel
theorem dX6_service_18 : decode cX6_service 18 = .ok (.ldc 159, 2) := by decide +kernel
theorem dX6_service_20 : decode cX6_service 20 = .ok (.invokespecial 94, 3) := by decide +kernel
theorem dX6_service_23 : decode cX6_service 23 = .ok (.athrow, 1) := by decide +kernel
theorem dX6_service_24 : decode cX6_service 24 = .ok (.aload_n 2, 1) := by decide +kernel
theorem dX6_service_25 : decode cX6_service 25 = .ok (.getfield 161, 3) := by decide +kernel
theorem dX6_service_28 : decode cX6_service 28 = .ok (.istore_n 3, 1) := by decide +kernel
theorem dX6_service_29 : decode cX6_service 29 = .ok (.aload_n 2, 1) := by decide +kernel
theorem dX6_service_30 : decode cX6_service 30 = .ok (.bipush 40, 2) := by decide +kernel
theorem dX6_service_32 : decode cX6_service 32 = .ok (.putfield 161, 3) := by decide +kernel
theorem dX6_service_35 : decode cX6_service 35 = .ok (.aload_n 0, 1) := by decide +kernel
theorem dX6_service_36 : decode cX6_service 36 = .ok (.dup, 1) := by decide +kernel
theorem dX6_service_37 : decode cX6_service 37 = .ok (.getfield 49, 3) := by decide +kernel
theorem dX6_service_40 : decode cX6_service 40 = .ok (.sipush 200, 3) := by decide +kernel
theorem dX6_service_43 : decode cX6_service 43 = .ok (.iadd, 1) := by decide +kernel
theorem dX6_service_44 : decode cX6_service 44 = .ok (.putfield 49, 3) := by decide +kernel
theorem dX6_service_47 : decode cX6_service 47 = .ok (.iload_n 3, 1) := by decide +kernel
theorem dX6_service_48 : decode cX6_service 48 = .ok (.ireturn, 1) := by decide +kernel
theorem dX6_book_0 : decode cX6_book 0 = .ok (.aload_n 0, 1) := by decide +kernel
theorem dX6_book_1 : decode cX6_book 1 = .ok (.iload_n 1, 1) := by decide +kernel
theorem dX6_book_2 : decode cX6_book 2 = .ok (.iload_n 2, 1) := by decide +kernel
theorem dX6_book_3 : decode cX6_book 3 = .ok (.iload_n 3, 1) := by decide +kernel
theorem dX6_book_4 : decode cX6_book 4 = .ok (.invokevirtual 99, 3) := by decide +kernel
theorem dX6_book_7 : decode cX6_book 7 = .ok (.iload 4, 2) := by decide +kernel
theorem dX6_book_9 : decode cX6_book 9 = .ok (.aload_n 0, 1) := by decide +kernel
theorem dX6_book_10 : decode cX6_book 10 = .ok (.getfield 42, 3) := by decide +kernel
theorem dX6_book_13 : decode cX6_book 13 = .ok (.iconst 5, 1) := by decide +kernel
theorem dX6_book_14 : decode cX6_book 14 = .ok (.iadd, 1) := by decide +kernel
theorem dX6_book_15 : decode cX6_book 15 = .ok (.if_icmp .lt 11, 3) := by decide +kernel
theorem dX6_book_18 : decode cX6_book 18 = .ok (.iload 4, 2) := by decide +kernel
theorem dX6_book_20 : decode cX6_book 20 = .ok (.sipush 2000, 3) := by decide +kernel
theorem dX6_book_23 : decode cX6_book 23 = .ok (.if_icmp .le 13, 3) := by decide +kernel
theorem dX6_book_26 : decode cX6_book 26 = .ok (.new 72, 3) := by decide +kernel
theorem dX6_book_29 : decode cX6_book 29 = .ok (.dup, 1) := by decide +kernel
theorem dX6_book_30 : decode cX6_book 30 = .ok (.ldc 164, 2) := by decide +kernel
theorem dX6_book_32 : decode cX6_book 32 = .ok (.invokespecial 76, 3) := by decide +kernel
theorem dX6_book_35 : decode cX6_book 35 = .ok (.athrow, 1) := by decide +kernel
theorem dX6_book_36 : decode cX6_book 36 = .ok (.iload 5, 2) := by decide +kernel
theorem dX6_book_38 : decode cX6_book 38 = .ok (.iconst 2, 1) := by decide +kernel
theorem dX6_book_39 : decode cX6_book 39 = .ok (.if_icmp .lt 10, 3) := by decide +kernel
theorem dX6_book_42 : decode cX6_book 42 = .ok (.iload 5, 2) := by decide +kernel
theorem dX6_book_44 : decode cX6_book 44 = .ok (.bipush 8, 2) := by decide +kernel
theorem dX6_book_46 : decode cX6_book 46 = .ok (.if_icmp .le 13, 3) := by decide +kernel
theorem dX6_book_49 : decode cX6_book 49 = .ok (.new 72, 3) := by decide +kernel
theorem dX6_book_52 : decode cX6_book 52 = .ok (.dup, 1) := by decide +kernel
theorem dX6_book_53 : decode cX6_book 53 = .ok (.ldc 166, 2) := by decide +kernel
theorem dX6_book_55 : decode cX6_book 55 = .ok (.invokespecial 76, 3) := by decide +kernel
theorem dX6_book_58 : decode cX6_book 58 = .ok (.athrow, 1) := by decide +kernel
theorem dX6_book_59 : decode cX6_book 59 = .ok (.aload_n 0, 1) := by decide +kernel
theorem dX6_book_60 : decode cX6_book 60 = .ok (.getfield 25, 3) := by decide +kernel
theorem dX6_book_63 : decode cX6_book 63 = .ok (.invokevirtual 104, 3) := by decide +kernel
theorem dX6_book_66 : decode cX6_book 66 = .ok (.bipush 16, 2) := by decide +kernel
theorem dX6_book_68 : decode cX6_book 68 = .ok (.if_icmp .lt 13, 3) := by decide +kernel
theorem dX6_book_71 : decode cX6_book 71 = .ok (.new 90, 3) := by decide +kernel
theorem dX6_book_74 : decode cX6_book 74 = .ok (.dup, 1) := by decide +kernel
theorem dX6_book_75 : decode cX6_book 75 = .ok (.ldc 168, 2) := by decide +kernel
theorem dX6_book_77 : decode cX6_book 77 = .ok (.invokespecial 94, 3) := by decide +kernel
theorem dX6_book_80 : decode cX6_book 80 = .ok (.athrow, 1) := by decide +kernel
theorem dX6_book_81 : decode cX6_book 81 = .ok (.aload_n 0, 1) := by decide +kernel
theorem dX6_book_82 : decode cX6_book 82 = .ok (.iload_n 1, 1) := by decide +kernel
theorem dX6_book_83 : decode cX6_book 83 = .ok (.iload_n 2, 1) := by decide +kernel
theorem dX6_book_84 : decode cX6_book 84 = .ok (.iload_n 3, 1) := by decide +kernel
theorem dX6_book_85 : decode cX6_book 85 = .ok (.iload 4, 2) := by decide +kernel
theorem dX6_book_87 : decode cX6_book 87 = .ok (.invokevirtual 170, 3) := by decide +kernel
theorem dX6_book_90 : decode cX6_book 90 = .ok (.ifCond .ne 13, 3) := by decide +kernel
theorem dX6_book_93 : decode cX6_book 93 = .ok (.new 90, 3) := by decide +kernel
theorem dX6_book_96 : decode cX6_book 96 = .ok (.dup, 1) := by decide +kernel
theorem dX6_book_97 : decode cX6_book 97 = .ok (.ldc 174, 2) := by decide +kernel
theorem dX6_book_99 : decode cX6_book 99 = .ok (.invokespecial 94, 3) := by decide +kernel
theorem dX6_book_102 : decode cX6_book 102 = .ok (.athrow, 1) := by decide +kernel
theorem dX6_book_103 : decode cX6_book 103 = .ok (.aload_n 0, 1) := by decide +kernel
theorem dX6_book_104 : decode cX6_book 104 = .ok (.getfield 25, 3) := by decide +kernel
theorem dX6_book_107 : decode cX6_book 107 = .ok (.new 176, 3) := by decide +kernel
theorem dX6_book_110 : decode cX6_book 110 = .ok (.dup, 1) := by decide +kernel
theorem dX6_book_111 : decode cX6_book 111 = .ok (.iload_n 1, 1) := by decide +kernel
theorem dX6_book_112 : decode cX6_book 112 = .ok (.iload_n 2, 1) := by decide +kernel
theorem dX6_book_113 : decode cX6_book 113 = .ok (.iload_n 3, 1) := by decide +kernel
theorem dX6_book_114 : decode cX6_book 114 = .ok (.iload 4, 2) := by decide +kernel
theorem dX6_book_116 : decode cX6_book 116 = .ok (.iload 5, 2) := by decide +kernel
theorem dX6_book_118 : decode cX6_book 118 = .ok (.invokespecial 178, 3) := by decide +kernel
theorem dX6_book_121 : decode cX6_book 121 = .ok (.invokevirtual 121, 3) := by decide +kernel
theorem dX6_book_124 : decode cX6_book 124 = .ok (.pop, 1) := by decide +kernel
theorem dX6_book_125 : decode cX6_book 125 = .ok (.aload_n 0, 1) := by decide +kernel
theorem dX6_book_126 : decode cX6_book 126 = .ok (.getfield 25, 3) := by decide +kernel
theorem dX6_book_129 : decode cX6_book 129 = .ok (.invokevirtual 104, 3) := by decide +kernel
theorem dX6_book_132 : decode cX6_book 132 = .ok (.iconst 1, 1) := by decide +kernel
theorem dX6_book_133 : decode cX6_book 133 = .ok (.isub, 1) := by decide +kernel
theorem dX6_book_134 : decode cX6_book 134 = .ok (.ireturn, 1) := by decide +kernel
theorem dX6_work_0 : decode cX6_work 0 = .ok (.aload_n 0, 1) := by decide +kernel
theorem dX6_work_1 : decode cX6_work 1 = .ok (.iload_n 1, 1) := by decide +kernel
theorem dX6_work_2 : decode cX6_work 2 = .ok (.invokevirtual 181, 3) := by decide +kernel
theorem dX6_work_5 : decode cX6_work 5 = .ok (.astore 4, 2) := by decide +kernel
theorem dX6_work_7 : decode cX6_work 7 = .ok (.aload_n 0, 1) := by decide +kernel
theorem dX6_work_8 : decode cX6_work 8 = .ok (.iload_n 3, 1) := by decide +kernel
theorem dX6_work_9 : decode cX6_work 9 = .ok (.invokevirtual 151, 3) := by decide +kernel
theorem dX6_work_12 : decode cX6_work 12 = .ok (.astore 5, 2) := by decide +kernel
theorem dX6_work_14 : decode cX6_work 14 = .ok (.aload_n 0, 1) := by decide +kernel
theorem dX6_work_15 : decode cX6_work 15 = .ok (.iload_n 2, 1) := by decide +kernel
theorem dX6_work_16 : decode cX6_work 16 = .ok (.invokevirtual 64, 3) := by decide +kernel
theorem dX6_work_19 : decode cX6_work 19 = .ok (.astore 6, 2) := by decide +kernel
theorem dX6_work_21 : decode cX6_work 21 = .ok (.aload 4, 2) := by decide +kernel
theorem dX6_work_23 : decode cX6_work 23 = .ok (.iload_n 2, 1) := by decide +kernel
theorem dX6_work_24 : decode cX6_work 24 = .ok (.invokevirtual 185, 3) := by decide +kernel
theorem dX6_work_27 : decode cX6_work 27 = .ok (.ifCond .ne 13, 3) := by decide +kernel
theorem dX6_work_30 : decode cX6_work 30 = .ok (.new 72, 3) := by decide +kernel
theorem dX6_work_33 : decode cX6_work 33 = .ok (.dup, 1) := by decide +kernel
theorem dX6_work_34 : decode cX6_work 34 = .ok (.ldc 189, 2) := by decide +kernel
theorem dX6_work_36 : decode cX6_work 36 = .ok (.invokespecial 76, 3) := by decide +kernel
theorem dX6_work_39 : decode cX6_work 39 = .ok (.athrow, 1) := by decide +kernel
theorem dX6_work_40 : decode cX6_work 40 = .ok (.aload 4, 2) := by decide +kernel
theorem dX6_work_42 : decode cX6_work 42 = .ok (.getfield 191, 3) := by decide +kernel
theorem dX6_work_45 : decode cX6_work 45 = .ok (.ifCond .eq 13, 3) := by decide +kernel
theorem dX6_work_48 : decode cX6_work 48 = .ok (.new 90, 3) := by decide +kernel
theorem dX6_work_51 : decode cX6_work 51 = .ok (.dup, 1) := by decide +kernel
theorem dX6_work_52 : decode cX6_work 52 = .ok (.ldc 194, 2) := by decide +kernel
theorem dX6_work_54 : decode cX6_work 54 = .ok (.invokespecial 94, 3) := by decide +kernel
theorem dX6_work_57 : decode cX6_work 57 = .ok (.athrow, 1) := by decide +kernel
theorem dX6_work_58 : decode cX6_work 58 = .ok (.aload 4, 2) := by decide +kernel
theorem dX6_work_60 : decode cX6_work 60 = .ok (.getfield 196, 3) := by decide +kernel
theorem dX6_work_63 : decode cX6_work 63 = .ok (.invokevirtual 104, 3) := by decide +kernel
theorem dX6_work_66 : decode cX6_work 66 = .ok (.bipush 6, 2) := by decide +kernel
theorem dX6_work_68 : decode cX6_work 68 = .ok (.if_icmp .lt 13, 3) := by decide +kernel
theorem dX6_work_71 : decode cX6_work 71 = .ok (.new 90, 3) := by decide +kernel
theorem dX6_work_74 : decode cX6_work 74 = .ok (.dup, 1) := by decide +kernel
theorem dX6_work_75 : decode cX6_work 75 = .ok (.ldc 199, 2) := by decide +kernel
theorem dX6_work_77 : decode cX6_work 77 = .ok (.invokespecial 94, 3) := by decide +kernel
theorem dX6_work_80 : decode cX6_work 80 = .ok (.athrow, 1) := by decide +kernel
theorem dX6_work_81 : decode cX6_work 81 = .ok (.aload 6, 2) := by decide +kernel
theorem dX6_work_83 : decode cX6_work 83 = .ok (.aload 5, 2) := by decide +kernel
theorem dX6_work_85 : decode cX6_work 85 = .ok (.getfield 201, 3) := by decide +kernel
theorem dX6_work_88 : decode cX6_work 88 = .ok (.invokevirtual 204, 3) := by decide +kernel
theorem dX6_work_91 : decode cX6_work 91 = .ok (.istore 7, 2) := by decide +kernel
theorem dX6_work_93 : decode cX6_work 93 = .ok (.aload 4, 2) := by decide +kernel
theorem dX6_work_95 : decode cX6_work 95 = .ok (.invokevirtual 208, 3) := by decide +kernel
theorem dX6_work_98 : decode cX6_work 98 = .ok (.iload 7, 2) := by decide +kernel
theorem dX6_work_100 : decode cX6_work 100 = .ok (.iadd, 1) := by decide +kernel
theorem dX6_work_101 : decode cX6_work 101 = .ok (.aload 4, 2) := by decide +kernel
theorem dX6_work_103 : decode cX6_work 103 = .ok (.getfield 211, 3) := by decide +kernel
theorem dX6_work_106 : decode cX6_work 106 = .ok (.if_icmp .le 13, 3) := by decide +kernel
theorem dX6_work_109 : decode cX6_work 109 = .ok (.new 90, 3) := by decide +kernel
theorem dX6_work_112 : decode cX6_work 112 = .ok (.dup, 1) := by decide +kernel
theorem dX6_work_113 : decode cX6_work 113 = .ok (.ldc 214, 2) := by decide +kernel
theorem dX6_work_115 : decode cX6_work 115 = .ok (.invokespecial 94, 3) := by decide +kernel
theorem dX6_work_118 : decode cX6_work 118 = .ok (.athrow, 1) := by decide +kernel
theorem dX6_work_119 : decode cX6_work 119 = .ok (.aload_n 0, 1) := by decide +kernel
theorem dX6_work_120 : decode cX6_work 120 = .ok (.aload 5, 2) := by decide +kernel
theorem dX6_work_122 : decode cX6_work 122 = .ok (.aload 4, 2) := by decide +kernel
theorem dX6_work_124 : decode cX6_work 124 = .ok (.invokevirtual 216, 3) := by decide +kernel
theorem dX6_work_127 : decode cX6_work 127 = .ok (.ifCond .eq 13, 3) := by decide +kernel
theorem dX6_work_130 : decode cX6_work 130 = .ok (.new 90, 3) := by decide +kernel
theorem dX6_work_133 : decode cX6_work 133 = .ok (.dup, 1) := by decide +kernel
theorem dX6_work_134 : decode cX6_work 134 = .ok (.ldc 220, 2) := by decide +kernel
theorem dX6_work_136 : decode cX6_work 136 = .ok (.invokespecial 94, 3) := by decide +kernel
theorem dX6_work_139 : decode cX6_work 139 = .ok (.athrow, 1) := by decide +kernel
theorem dX6_work_140 : decode cX6_work 140 = .ok (.aload 4, 2) := by decide +kernel
theorem dX6_work_142 : decode cX6_work 142 = .ok (.getfield 196, 3) := by decide +kernel
theorem dX6_work_145 : decode cX6_work 145 = .ok (.new 222, 3) := by decide +kernel
theorem dX6_work_148 : decode cX6_work 148 = .ok (.dup, 1) := by decide +kernel
theorem dX6_work_149 : decode cX6_work 149 = .ok (.aload 6, 2) := by decide +kernel
theorem dX6_work_151 : decode cX6_work 151 = .ok (.aload 5, 2) := by decide +kernel
theorem dX6_work_153 : decode cX6_work 153 = .ok (.iload 7, 2) := by decide +kernel
theorem dX6_work_155 : decode cX6_work 155 = .ok (.invokespecial 224, 3) := by decide +kernel
theorem dX6_work_158 : decode cX6_work 158 = .ok (.invokevirtual 121, 3) := by decide +kernel
theorem dX6_work_161 : decode cX6_work 161 = .ok (.pop, 1) := by decide +kernel
theorem dX6_work_162 : decode cX6_work 162 = .ok (.aload 4, 2) := by decide +kernel
theorem dX6_work_164 : decode cX6_work 164 = .ok (.invokevirtual 208, 3) := by decide +kernel
theorem dX6_work_167 : decode cX6_work 167 = .ok (.ireturn, 1) := by decide +kernel
theorem dX6_cancel_0 : decode cX6_cancel 0 = .ok (.aload_n 0, 1) := by decide +kernel
theorem dX6_cancel_1 : decode cX6_cancel 1 = .ok (.iload_n 1, 1) := by decide +kernel
theorem dX6_cancel_2 : decode cX6_cancel 2 = .ok (.invokevirtual 181, 3) := by decide +kernel
theorem dX6_cancel_5 : decode cX6_cancel 5 = .ok (.astore_n 2, 1) := by decide +kernel
theorem dX6_cancel_6 : decode cX6_cancel 6 = .ok (.aload_n 2, 1) := by decide +kernel
theorem dX6_cancel_7 : decode cX6_cancel 7 = .ok (.getfield 191, 3) := by decide +kernel
theorem dX6_cancel_10 : decode cX6_cancel 10 = .ok (.ifCond .eq 13, 3) := by decide +kernel
theorem dX6_cancel_13 : decode cX6_cancel 13 = .ok (.new 90, 3) := by decide +kernel
theorem dX6_cancel_16 : decode cX6_cancel 16 = .ok (.dup, 1) := by decide +kernel
theorem dX6_cancel_17 : decode cX6_cancel 17 = .ok (.ldc 194, 2) := by decide +kernel
theorem dX6_cancel_19 : decode cX6_cancel 19 = .ok (.invokespecial 94, 3) := by decide +kernel
theorem dX6_cancel_22 : decode cX6_cancel 22 = .ok (.athrow, 1) := by decide +kernel
theorem dX6_cancel_23 : decode cX6_cancel 23 = .ok (.aload_n 2, 1) := by decide +kernel
theorem dX6_cancel_24 : decode cX6_cancel 24 = .ok (.getfield 227, 3) := by decide +kernel
theorem dX6_cancel_27 : decode cX6_cancel 27 = .ok (.aload_n 0, 1) := by decide +kernel
theorem dX6_cancel_28 : decode cX6_cancel 28 = .ok (.getfield 42, 3) := by decide +kernel
theorem dX6_cancel_31 : decode cX6_cancel 31 = .ok (.iconst 5, 1) := by decide +kernel
theorem dX6_cancel_32 : decode cX6_cancel 32 = .ok (.iadd, 1) := by decide +kernel
theorem dX6_cancel_33 : decode cX6_cancel 33 = .ok (.if_icmp .ge 13, 3) := by decide +kernel
theorem dX6_cancel_36 : decode cX6_cancel 36 = .ok (.bipush 10, 2) := by decide +kernel
theorem dX6_cancel_38 : decode cX6_cancel 38 = .ok (.aload_n 2, 1) := by decide +kernel
theorem dX6_cancel_39 : decode cX6_cancel 39 = .ok (.getfield 211, 3) := by decide +kernel
theorem dX6_cancel_42 : decode cX6_cancel 42 = .ok (.imul, 1) := by decide +kernel
theorem dX6_cancel_43 : decode cX6_cancel 43 = .ok (.goto 4, 3) := by decide +kernel
theorem dX6_cancel_46 : decode cX6_cancel 46 = .ok (.iconst 0, 1) := by decide +kernel
theorem dX6_cancel_47 : decode cX6_cancel 47 = .ok (.istore_n 3, 1) := by decide +kernel
theorem dX6_cancel_48 : decode cX6_cancel 48 = .ok (.aload_n 2, 1) := by decide +kernel
theorem dX6_cancel_49 : decode cX6_cancel 49 = .ok (.iconst 4, 1) := by decide +kernel
theorem dX6_cancel_50 : decode cX6_cancel 50 = .ok (.putfield 191, 3) := by decide +kernel
theorem dX6_cancel_53 : decode cX6_cancel 53 = .ok (.aload_n 0, 1) := by decide +kernel
theorem dX6_cancel_54 : decode cX6_cancel 54 = .ok (.dup, 1) := by decide +kernel
theorem dX6_cancel_55 : decode cX6_cancel 55 = .ok (.getfield 49, 3) := by decide +kernel
theorem dX6_cancel_58 : decode cX6_cancel 58 = .ok (.iload_n 3, 1) := by decide +kernel
theorem dX6_cancel_59 : decode cX6_cancel 59 = .ok (.iadd, 1) := by decide +kernel
theorem dX6_cancel_60 : decode cX6_cancel 60 = .ok (.putfield 49, 3) := by decide +kernel
theorem dX6_cancel_63 : decode cX6_cancel 63 = .ok (.iload_n 3, 1) := by decide +kernel
theorem dX6_cancel_64 : decode cX6_cancel 64 = .ok (.ireturn, 1) := by decide +kernel
theorem dX6_mark_0 : decode cX6_mark 0 = .ok (.aload_n 0, 1) := by decide +kernel
theorem dX6_mark_1 : decode cX6_mark 1 = .ok (.iload_n 1, 1) := by decide +kernel
theorem dX6_mark_2 : decode cX6_mark 2 = .ok (.invokevirtual 181, 3) := by decide +kernel
theorem dX6_mark_5 : decode cX6_mark 5 = .ok (.astore_n 3, 1) := by decide +kernel
theorem dX6_mark_6 : decode cX6_mark 6 = .ok (.iload_n 2, 1) := by decide +kernel
theorem dX6_mark_7 : decode cX6_mark 7 = .ok (.ifCond .lt 8, 3) := by decide +kernel
theorem dX6_mark_10 : decode cX6_mark 10 = .ok (.iload_n 2, 1) := by decide +kernel
theorem dX6_mark_11 : decode cX6_mark 11 = .ok (.iconst 2, 1) := by decide +kernel
theorem dX6_mark_12 : decode cX6_mark 12 = .ok (.if_icmp .lt 13, 3) := by decide +kernel
theorem dX6_mark_15 : decode cX6_mark 15 = .ok (.new 125, 3) := by decide +kernel
theorem dX6_mark_18 : decode cX6_mark 18 = .ok (.dup, 1) := by decide +kernel
theorem dX6_mark_19 : decode cX6_mark 19 = .ok (.ldc 230, 2) := by decide +kernel
theorem dX6_mark_21 : decode cX6_mark 21 = .ok (.invokespecial 129, 3) := by decide +kernel
theorem dX6_mark_24 : decode cX6_mark 24 = .ok (.athrow, 1) := by decide +kernel
theorem dX6_mark_25 : decode cX6_mark 25 = .ok (.aload_n 3, 1) := by decide +kernel
theorem dX6_mark_26 : decode cX6_mark 26 = .ok (.getfield 191, 3) := by decide +kernel
theorem dX6_mark_29 : decode cX6_mark 29 = .ok (.ifCond .eq 13, 3) := by decide +kernel
theorem dX6_mark_32 : decode cX6_mark 32 = .ok (.new 90, 3) := by decide +kernel
theorem dX6_mark_35 : decode cX6_mark 35 = .ok (.dup, 1) := by decide +kernel
theorem dX6_mark_36 : decode cX6_mark 36 = .ok (.ldc 194, 2) := by decide +kernel
theorem dX6_mark_38 : decode cX6_mark 38 = .ok (.invokespecial 94, 3) := by decide +kernel
theorem dX6_mark_41 : decode cX6_mark 41 = .ok (.athrow, 1) := by decide +kernel
theorem dX6_mark_42 : decode cX6_mark 42 = .ok (.aload_n 3, 1) := by decide +kernel
theorem dX6_mark_43 : decode cX6_mark 43 = .ok (.getfield 227, 3) := by decide +kernel
theorem dX6_mark_46 : decode cX6_mark 46 = .ok (.aload_n 0, 1) := by decide +kernel
theorem dX6_mark_47 : decode cX6_mark 47 = .ok (.getfield 42, 3) := by decide +kernel
theorem dX6_mark_50 : decode cX6_mark 50 = .ok (.if_icmp .eq 13, 3) := by decide +kernel
theorem dX6_mark_53 : decode cX6_mark 53 = .ok (.new 90, 3) := by decide +kernel
theorem dX6_mark_56 : decode cX6_mark 56 = .ok (.dup, 1) := by decide +kernel
theorem dX6_mark_57 : decode cX6_mark 57 = .ok (.ldc 232, 2) := by decide +kernel
theorem dX6_mark_59 : decode cX6_mark 59 = .ok (.invokespecial 94, 3) := by decide +kernel
theorem dX6_mark_62 : decode cX6_mark 62 = .ok (.athrow, 1) := by decide +kernel
theorem dX6_mark_63 : decode cX6_mark 63 = .ok (.aload_n 3, 1) := by decide +kernel
theorem dX6_mark_64 : decode cX6_mark 64 = .ok (.iload_n 2, 1) := by decide +kernel
theorem dX6_mark_65 : decode cX6_mark 65 = .ok (.invokevirtual 234, 3) := by decide +kernel
theorem dX6_mark_68 : decode cX6_mark 68 = .ok (.ifCond .eq 13, 3) := by decide +kernel
theorem dX6_mark_71 : decode cX6_mark 71 = .ok (.new 90, 3) := by decide +kernel
theorem dX6_mark_74 : decode cX6_mark 74 = .ok (.dup, 1) := by decide +kernel
theorem dX6_mark_75 : decode cX6_mark 75 = .ok (.ldc 237, 2) := by decide +kernel
theorem dX6_mark_77 : decode cX6_mark 77 = .ok (.invokespecial 94, 3) := by decide +kernel
theorem dX6_mark_80 : decode cX6_mark 80 = .ok (.athrow, 1) := by decide +kernel
theorem dX6_mark_81 : decode cX6_mark 81 = .ok (.aload_n 3, 1) := by decide +kernel
theorem dX6_mark_82 : decode cX6_mark 82 = .ok (.iload_n 2, 1) := by decide +kernel
theorem dX6_mark_83 : decode cX6_mark 83 = .ok (.invokevirtual 239, 3) := by decide +kernel
theorem dX6_mark_86 : decode cX6_mark 86 = .ok (.aload_n 3, 1) := by decide +kernel
theorem dX6_mark_87 : decode cX6_mark 87 = .ok (.invokevirtual 242, 3) := by decide +kernel
theorem dX6_mark_90 : decode cX6_mark 90 = .ok (.ireturn, 1) := by decide +kernel
theorem dX6_take_0 : decode cX6_take 0 = .ok (.aload_n 0, 1) := by decide +kernel
theorem dX6_take_1 : decode cX6_take 1 = .ok (.iload_n 1, 1) := by decide +kernel
theorem dX6_take_2 : decode cX6_take 2 = .ok (.invokevirtual 181, 3) := by decide +kernel
theorem dX6_take_5 : decode cX6_take 5 = .ok (.astore_n 2, 1) := by decide +kernel
theorem dX6_take_6 : decode cX6_take 6 = .ok (.aload_n 2, 1) := by decide +kernel
theorem dX6_take_7 : decode cX6_take 7 = .ok (.getfield 191, 3) := by decide +kernel
theorem dX6_take_10 : decode cX6_take 10 = .ok (.ifCond .eq 13, 3) := by decide +kernel
theorem dX6_take_13 : decode cX6_take 13 = .ok (.new 90, 3) := by decide +kernel
theorem dX6_take_16 : decode cX6_take 16 = .ok (.dup, 1) := by decide +kernel
theorem dX6_take_17 : decode cX6_take 17 = .ok (.ldc 194, 2) := by decide +kernel
theorem dX6_take_19 : decode cX6_take 19 = .ok (.invokespecial 94, 3) := by decide +kernel
theorem dX6_take_22 : decode cX6_take 22 = .ok (.athrow, 1) := by decide +kernel
theorem dX6_take_23 : decode cX6_take 23 = .ok (.aload_n 2, 1) := by decide +kernel
theorem dX6_take_24 : decode cX6_take 24 = .ok (.invokevirtual 242, 3) := by decide +kernel
theorem dX6_take_27 : decode cX6_take 27 = .ok (.iconst 2, 1) := by decide +kernel
theorem dX6_take_28 : decode cX6_take 28 = .ok (.if_icmp .ge 13, 3) := by decide +kernel
theorem dX6_take_31 : decode cX6_take 31 = .ok (.new 90, 3) := by decide +kernel
theorem dX6_take_34 : decode cX6_take 34 = .ok (.dup, 1) := by decide +kernel
theorem dX6_take_35 : decode cX6_take 35 = .ok (.ldc 245, 2) := by decide +kernel
theorem dX6_take_37 : decode cX6_take 37 = .ok (.invokespecial 94, 3) := by decide +kernel
theorem dX6_take_40 : decode cX6_take 40 = .ok (.athrow, 1) := by decide +kernel
theorem dX6_take_41 : decode cX6_take 41 = .ok (.aload_n 2, 1) := by decide +kernel
theorem dX6_take_42 : decode cX6_take 42 = .ok (.iconst 1, 1) := by decide +kernel
theorem dX6_take_43 : decode cX6_take 43 = .ok (.putfield 191, 3) := by decide +kernel
theorem dX6_take_46 : decode cX6_take 46 = .ok (.aload_n 2, 1) := by decide +kernel
theorem dX6_take_47 : decode cX6_take 47 = .ok (.getfield 247, 3) := by decide +kernel
theorem dX6_take_50 : decode cX6_take 50 = .ok (.aload_n 2, 1) := by decide +kernel
theorem dX6_take_51 : decode cX6_take 51 = .ok (.getfield 250, 3) := by decide +kernel
theorem dX6_take_54 : decode cX6_take 54 = .ok (.isub, 1) := by decide +kernel
theorem dX6_take_55 : decode cX6_take 55 = .ok (.iconst 1, 1) := by decide +kernel
theorem dX6_take_56 : decode cX6_take 56 = .ok (.iadd, 1) := by decide +kernel
theorem dX6_take_57 : decode cX6_take 57 = .ok (.ireturn, 1) := by decide +kernel
theorem dX6_giveBack_0 : decode cX6_giveBack 0 = .ok (.aload_n 0, 1) := by decide +kernel
theorem dX6_giveBack_1 : decode cX6_giveBack 1 = .ok (.iload_n 1, 1) := by decide +kernel
theorem dX6_giveBack_2 : decode cX6_giveBack 2 = .ok (.invokevirtual 181, 3) := by decide +kernel
theorem dX6_giveBack_5 : decode cX6_giveBack 5 = .ok (.astore_n 2, 1) := by decide +kernel
theorem dX6_giveBack_6 : decode cX6_giveBack 6 = .ok (.aload_n 2, 1) := by decide +kernel
theorem dX6_giveBack_7 : decode cX6_giveBack 7 = .ok (.getfield 191, 3) := by decide +kernel
theorem dX6_giveBack_10 : decode cX6_giveBack 10 = .ok (.iconst 1, 1) := by decide +kernel
theorem dX6_giveBack_11 : decode cX6_giveBack 11 = .ok (.if_icmp .eq 13, 3) := by decide +kernel
theorem dX6_giveBack_14 : decode cX6_giveBack 14 = .ok (.new 90, 3) := by decide +kernel
theorem dX6_giveBack_17 : decode cX6_giveBack 17 = .ok (.dup, 1) := by decide +kernel
theorem dX6_giveBack_18 : decode cX6_giveBack 18 = .ok (.ldc 253, 2) := by decide +kernel
theorem dX6_giveBack_20 : decode cX6_giveBack 20 = .ok (.invokespecial 94, 3) := by decide +kernel
theorem dX6_giveBack_23 : decode cX6_giveBack 23 = .ok (.athrow, 1) := by decide +kernel
theorem dX6_giveBack_24 : decode cX6_giveBack 24 = .ok (.aload_n 0, 1) := by decide +kernel
theorem dX6_giveBack_25 : decode cX6_giveBack 25 = .ok (.aload_n 2, 1) := by decide +kernel
theorem dX6_giveBack_26 : decode cX6_giveBack 26 = .ok (.iconst 0, 1) := by decide +kernel
theorem dX6_giveBack_27 : decode cX6_giveBack 27 = .ok (.invokevirtual 255, 3) := by decide +kernel
theorem dX6_giveBack_30 : decode cX6_giveBack 30 = .ok (.aload_n 2, 1) := by decide +kernel
theorem dX6_giveBack_31 : decode cX6_giveBack 31 = .ok (.getfield 259, 3) := by decide +kernel
theorem dX6_giveBack_34 : decode cX6_giveBack 34 = .ok (.ireturn, 1) := by decide +kernel
theorem dX6_walk_0 : decode cX6_walk 0 = .ok (.aload_n 0, 1) := by decide +kernel
theorem dX6_walk_1 : decode cX6_walk 1 = .ok (.iload_n 1, 1) := by decide +kernel
theorem dX6_walk_2 : decode cX6_walk 2 = .ok (.invokevirtual 64, 3) := by decide +kernel
theorem dX6_walk_5 : decode cX6_walk 5 = .ok (.astore_n 3, 1) := by decide +kernel
theorem dX6_walk_6 : decode cX6_walk 6 = .ok (.iload_n 2, 1) := by decide +kernel
theorem dX6_walk_7 : decode cX6_walk 7 = .ok (.bipush 50, 2) := by decide +kernel
theorem dX6_walk_9 : decode cX6_walk 9 = .ok (.if_icmp .lt 10, 3) := by decide +kernel
theorem dX6_walk_12 : decode cX6_walk 12 = .ok (.iload_n 2, 1) := by decide +kernel
theorem dX6_walk_13 : decode cX6_walk 13 = .ok (.sipush 2000, 3) := by decide +kernel
theorem dX6_walk_16 : decode cX6_walk 16 = .ok (.if_icmp .le 14, 3) := by decide +kernel
theorem dX6_walk_19 : decode cX6_walk 19 = .ok (.new 72, 3) := by decide +kernel
theorem dX6_walk_22 : decode cX6_walk 22 = .ok (.dup, 1) := by decide +kernel
theorem dX6_walk_23 : decode cX6_walk 23 = .ok (.ldc_w 262, 3) := by decide +kernel
theorem dX6_walk_26 : decode cX6_walk 26 = .ok (.invokespecial 76, 3) := by decide +kernel
theorem dX6_walk_29 : decode cX6_walk 29 = .ok (.athrow, 1) := by decide +kernel
theorem dX6_walk_30 : decode cX6_walk 30 = .ok (.aload_n 0, 1) := by decide +kernel
theorem dX6_walk_31 : decode cX6_walk 31 = .ok (.iload_n 1, 1) := by decide +kernel
theorem dX6_walk_32 : decode cX6_walk 32 = .ok (.invokevirtual 264, 3) := by decide +kernel
theorem dX6_walk_35 : decode cX6_walk 35 = .ok (.ifCond .ne 19, 3) := by decide +kernel
theorem dX6_walk_38 : decode cX6_walk 38 = .ok (.aload_n 3, 1) := by decide +kernel
theorem dX6_walk_39 : decode cX6_walk 39 = .ok (.getfield 79, 3) := by decide +kernel
theorem dX6_walk_42 : decode cX6_walk 42 = .ok (.aload_n 0, 1) := by decide +kernel
theorem dX6_walk_43 : decode cX6_walk 43 = .ok (.iload_n 1, 1) := by decide +kernel
theorem dX6_walk_44 : decode cX6_walk 44 = .ok (.invokevirtual 267, 3) := by decide +kernel
theorem dX6_walk_47 : decode cX6_walk 47 = .ok (.iload_n 2, 1) := by decide +kernel
theorem dX6_walk_48 : decode cX6_walk 48 = .ok (.invokestatic 270, 3) := by decide +kernel
theorem dX6_walk_51 : decode cX6_walk 51 = .ok (.ifCond .eq 7, 3) := by decide +kernel
theorem dX6_walk_54 : decode cX6_walk 54 = .ok (.iconst 1, 1) := by decide +kernel
theorem dX6_walk_55 : decode cX6_walk 55 = .ok (.goto 4, 3) := by decide +kernel
theorem dX6_walk_58 : decode cX6_walk 58 = .ok (.iconst 0, 1) := by decide +kernel
theorem dX6_walk_59 : decode cX6_walk 59 = .ok (.istore 4, 2) := by decide +kernel
theorem dX6_walk_61 : decode cX6_walk 61 = .ok (.iload 4, 2) := by decide +kernel
theorem dX6_walk_63 : decode cX6_walk 63 = .ok (.ifCond .ne 13, 3) := by decide +kernel
theorem dX6_walk_66 : decode cX6_walk 66 = .ok (.aload_n 0, 1) := by decide +kernel
theorem dX6_walk_67 : decode cX6_walk 67 = .ok (.dup, 1) := by decide +kernel
theorem dX6_walk_68 : decode cX6_walk 68 = .ok (.getfield 58, 3) := by decide +kernel
theorem dX6_walk_71 : decode cX6_walk 71 = .ok (.iconst 1, 1) := by decide +kernel
theorem dX6_walk_72 : decode cX6_walk 72 = .ok (.iadd, 1) := by decide +kernel
theorem dX6_walk_73 : decode cX6_walk 73 = .ok (.putfield 58, 3) := by decide +kernel
theorem dX6_walk_76 : decode cX6_walk 76 = .ok (.iload 4, 2) := by decide +kernel
theorem dX6_walk_78 : decode cX6_walk 78 = .ok (.ireturn, 1) := by decide +kernel
theorem dX6_ofSection_0 : decode cX6_ofSection 0 = .ok (.aload_n 0, 1) := by decide +kernel
theorem dX6_ofSection_1 : decode cX6_ofSection 1 = .ok (.iload_n 1, 1) := by decide +kernel
theorem dX6_ofSection_2 : decode cX6_ofSection 2 = .ok (.invokevirtual 64, 3) := by decide +kernel
theorem dX6_ofSection_5 : decode cX6_ofSection 5 = .ok (.astore_n 3, 1) := by decide +kernel
theorem dX6_ofSection_6 : decode cX6_ofSection 6 = .ok (.iload_n 2, 1) := by decide +kernel
theorem dX6_ofSection_7 : decode cX6_ofSection 7 = .ok (.tableswitch 106 0 7 #[45, 53, 61, 69, 74, 79, 92, 97], 45) := by decide +kernel
theorem dX6_ofSection_52 : decode cX6_ofSection 52 = .ok (.aload_n 3, 1) := by decide +kernel
theorem dX6_ofSection_53 : decode cX6_ofSection 53 = .ok (.getfield 114, 3) := by decide +kernel
theorem dX6_ofSection_56 : decode cX6_ofSection 56 = .ok (.getfield 274, 3) := by decide +kernel
theorem dX6_ofSection_59 : decode cX6_ofSection 59 = .ok (.ireturn, 1) := by decide +kernel
theorem dX6_ofSection_60 : decode cX6_ofSection 60 = .ok (.aload_n 3, 1) := by decide +kernel
theorem dX6_ofSection_61 : decode cX6_ofSection 61 = .ok (.getfield 114, 3) := by decide +kernel
theorem dX6_ofSection_64 : decode cX6_ofSection 64 = .ok (.getfield 277, 3) := by decide +kernel
theorem dX6_ofSection_67 : decode cX6_ofSection 67 = .ok (.ireturn, 1) := by decide +kernel
theorem dX6_ofSection_68 : decode cX6_ofSection 68 = .ok (.aload_n 3, 1) := by decide +kernel
theorem dX6_ofSection_69 : decode cX6_ofSection 69 = .ok (.getfield 114, 3) := by decide +kernel
theorem dX6_ofSection_72 : decode cX6_ofSection 72 = .ok (.getfield 280, 3) := by decide +kernel
theorem dX6_ofSection_75 : decode cX6_ofSection 75 = .ok (.ireturn, 1) := by decide +kernel
theorem dX6_ofSection_76 : decode cX6_ofSection 76 = .ok (.aload_n 3, 1) := by decide +kernel
theorem dX6_ofSection_77 : decode cX6_ofSection 77 = .ok (.getfield 283, 3) := by decide +kernel
theorem dX6_ofSection_80 : decode cX6_ofSection 80 = .ok (.ireturn, 1) := by decide +kernel
theorem dX6_ofSection_81 : decode cX6_ofSection 81 = .ok (.aload_n 3, 1) := by decide +kernel
theorem dX6_ofSection_82 : decode cX6_ofSection 82 = .ok (.getfield 286, 3) := by decide +kernel
theorem dX6_ofSection_85 : decode cX6_ofSection 85 = .ok (.ireturn, 1) := by decide +kernel
theorem dX6_ofSection_86 : decode cX6_ofSection 86 = .ok (.aload_n 3, 1) := by decide +kernel
theorem dX6_ofSection_87 : decode cX6_ofSection 87 = .ok (.getfield 68, 3) := by decide +kernel
theorem dX6_ofSection_90 : decode cX6_ofSection 90 = .ok (.ifCond .eq 7, 3) := by decide +kernel
theorem dX6_ofSection_93 : decode cX6_ofSection 93 = .ok (.iconst 1, 1) := by decide +kernel
theorem dX6_ofSection_94 : decode cX6_ofSection 94 = .ok (.goto 4, 3) := by decide +kernel
theorem dX6_ofSection_97 : decode cX6_ofSection 97 = .ok (.iconst 0, 1) := by decide +kernel
theorem dX6_ofSection_98 : decode cX6_ofSection 98 = .ok (.ireturn, 1) := by decide +kernel
theorem dX6_ofSection_99 : decode cX6_ofSection 99 = .ok (.aload_n 3, 1) := by decide +kernel
theorem dX6_ofSection_100 : decode cX6_ofSection 100 = .ok (.getfield 79, 3) := by decide +kernel
theorem dX6_ofSection_103 : decode cX6_ofSection 103 = .ok (.ireturn, 1) := by decide +kernel
theorem dX6_ofSection_104 : decode cX6_ofSection 104 = .ok (.aload_n 3, 1) := by decide +kernel
theorem dX6_ofSection_105 : decode cX6_ofSection 105 = .ok (.aload_n 0, 1) := by decide +kernel
theorem dX6_ofSection_106 : decode cX6_ofSection 106 = .ok (.getfield 46, 3) := by decide +kernel
theorem dX6_ofSection_109 : decode cX6_ofSection 109 = .ok (.invokevirtual 289, 3) := by decide +kernel
theorem dX6_ofSection_112 : decode cX6_ofSection 112 = .ok (.ireturn, 1) := by decide +kernel
theorem dX6_ofSection_113 : decode cX6_ofSection 113 = .ok (.new 72, 3) := by decide +kernel
theorem dX6_ofSection_116 : decode cX6_ofSection 116 = .ok (.dup, 1) := by decide +kernel
theorem dX6_ofSection_117 : decode cX6_ofSection 117 = .ok (.ldc_w 292, 3) := by decide +kernel
theorem dX6_ofSection_120 : decode cX6_ofSection 120 = .ok (.invokespecial 76, 3) := by decide +kernel
theorem dX6_ofSection_123 : decode cX6_ofSection 123 = .ok (.athrow, 1) := by decide +kernel
theorem dX6_known_0 : decode cX6_known 0 = .ok (.aload_n 0, 1) := by decide +kernel
theorem dX6_known_1 : decode cX6_known 1 = .ok (.iload_n 1, 1) := by decide +kernel
theorem dX6_known_2 : decode cX6_known 2 = .ok (.invokevirtual 64, 3) := by decide +kernel
theorem dX6_known_5 : decode cX6_known 5 = .ok (.astore_n 3, 1) := by decide +kernel
theorem dX6_known_6 : decode cX6_known 6 = .ok (.aload_n 0, 1) := by decide +kernel
theorem dX6_known_7 : decode cX6_known 7 = .ok (.iload_n 1, 1) := by decide +kernel
theorem dX6_known_8 : decode cX6_known 8 = .ok (.invokevirtual 294, 3) := by decide +kernel
theorem dX6_known_11 : decode cX6_known 11 = .ok (.astore 4, 2) := by decide +kernel
theorem dX6_known_13 : decode cX6_known 13 = .ok (.iload_n 2, 1) := by decide +kernel
theorem dX6_known_14 : decode cX6_known 14 = .ok (.tableswitch 73 0 4 #[34, 40, 46, 52, 67], 34) := by decide +kernel
theorem dX6_known_48 : decode cX6_known 48 = .ok (.aload 4, 2) := by decide +kernel
theorem dX6_known_50 : decode cX6_known 50 = .ok (.getfield 274, 3) := by decide +kernel
theorem dX6_known_53 : decode cX6_known 53 = .ok (.ireturn, 1) := by decide +kernel
theorem dX6_known_54 : decode cX6_known 54 = .ok (.aload 4, 2) := by decide +kernel
theorem dX6_known_56 : decode cX6_known 56 = .ok (.getfield 277, 3) := by decide +kernel
theorem dX6_known_59 : decode cX6_known 59 = .ok (.ireturn, 1) := by decide +kernel
theorem dX6_known_60 : decode cX6_known 60 = .ok (.aload 4, 2) := by decide +kernel
theorem dX6_known_62 : decode cX6_known 62 = .ok (.getfield 280, 3) := by decide +kernel
theorem dX6_known_65 : decode cX6_known 65 = .ok (.ireturn, 1) := by decide +kernel
theorem dX6_known_66 : decode cX6_known 66 = .ok (.aload 4, 2) := by decide +kernel
theorem dX6_known_68 : decode cX6_known 68 = .ok (.aload_n 0, 1) := by decide +kernel
theorem dX6_known_69 : decode cX6_known 69 = .ok (.getfield 46, 3) := by decide +kernel
theorem dX6_known_72 : decode cX6_known 72 = .ok (.aload_n 3, 1) := by decide +kernel
theorem dX6_known_73 : decode cX6_known 73 = .ok (.getfield 286, 3) := by decide +kernel
theorem dX6_known_76 : decode cX6_known 76 = .ok (.isub, 1) := by decide +kernel
theorem dX6_known_77 : decode cX6_known 77 = .ok (.invokevirtual 298, 3) := by decide +kernel
theorem dX6_known_80 : decode cX6_known 80 = .ok (.ireturn, 1) := by decide +kernel
theorem dX6_known_81 : decode cX6_known 81 = .ok (.aload_n 0, 1) := by decide +kernel
theorem dX6_known_82 : decode cX6_known 82 = .ok (.iload_n 1, 1) := by decide +kernel
theorem dX6_known_83 : decode cX6_known 83 = .ok (.invokevirtual 301, 3) := by decide +kernel
theorem dX6_known_86 : decode cX6_known 86 = .ok (.ireturn, 1) := by decide +kernel
theorem dX6_known_87 : decode cX6_known 87 = .ok (.new 72, 3) := by decide +kernel
theorem dX6_known_90 : decode cX6_known 90 = .ok (.dup, 1) := by decide +kernel
theorem dX6_known_91 : decode cX6_known 91 = .ok (.ldc_w 304, 3) := by decide +kernel
theorem dX6_known_94 : decode cX6_known 94 = .ok (.invokespecial 76, 3) := by decide +kernel
theorem dX6_known_97 : decode cX6_known 97 = .ok (.athrow, 1) := by decide +kernel
theorem dX6_why_0 : decode cX6_why 0 = .ok (.aload_n 0, 1) := by decide +kernel
theorem dX6_why_1 : decode cX6_why 1 = .ok (.iload_n 1, 1) := by decide +kernel
theorem dX6_why_2 : decode cX6_why 2 = .ok (.invokevirtual 64, 3) := by decide +kernel
theorem dX6_why_5 : decode cX6_why 5 = .ok (.astore_n 3, 1) := by decide +kernel
theorem dX6_why_6 : decode cX6_why 6 = .ok (.iload_n 2, 1) := by decide +kernel
theorem dX6_why_7 : decode cX6_why 7 = .ok (.ifCond .eq 11, 3) := by decide +kernel
theorem dX6_why_10 : decode cX6_why 10 = .ok (.aload_n 0, 1) := by decide +kernel
theorem dX6_why_11 : decode cX6_why 11 = .ok (.iload_n 1, 1) := by decide +kernel
theorem dX6_why_12 : decode cX6_why 12 = .ok (.invokevirtual 294, 3) := by decide +kernel
theorem dX6_why_15 : decode cX6_why 15 = .ok (.goto 7, 3) := by decide +kernel
theorem dX6_why_18 : decode cX6_why 18 = .ok (.aload_n 3, 1) := by decide +kernel
theorem dX6_why_19 : decode cX6_why 19 = .ok (.getfield 114, 3) := by decide +kernel
theorem dX6_why_22 : decode cX6_why 22 = .ok (.astore 4, 2) := by decide +kernel
theorem dX6_why_24 : decode cX6_why 24 = .ok (.aload 4, 2) := by decide +kernel
theorem dX6_why_26 : decode cX6_why 26 = .ok (.aload_n 0, 1) := by decide +kernel
theorem dX6_why_27 : decode cX6_why 27 = .ok (.getfield 46, 3) := by decide +kernel
theorem dX6_why_30 : decode cX6_why 30 = .ok (.aload_n 3, 1) := by decide +kernel
theorem dX6_why_31 : decode cX6_why 31 = .ok (.getfield 286, 3) := by decide +kernel
theorem dX6_why_34 : decode cX6_why 34 = .ok (.isub, 1) := by decide +kernel
theorem dX6_why_35 : decode cX6_why 35 = .ok (.invokevirtual 306, 3) := by decide +kernel
theorem dX6_why_38 : decode cX6_why 38 = .ok (.ireturn, 1) := by decide +kernel
theorem dX6_ofMachine_0 : decode cX6_ofMachine 0 = .ok (.aload_n 0, 1) := by decide +kernel
theorem dX6_ofMachine_1 : decode cX6_ofMachine 1 = .ok (.iload_n 1, 1) := by decide +kernel
theorem dX6_ofMachine_2 : decode cX6_ofMachine 2 = .ok (.invokevirtual 151, 3) := by decide +kernel
theorem dX6_ofMachine_5 : decode cX6_ofMachine 5 = .ok (.astore_n 3, 1) := by decide +kernel
theorem dX6_ofMachine_6 : decode cX6_ofMachine 6 = .ok (.iload_n 2, 1) := by decide +kernel
theorem dX6_ofMachine_7 : decode cX6_ofMachine 7 = .ok (.tableswitch 49 0 3 #[29, 34, 39, 44], 29) := by decide +kernel
theorem dX6_ofMachine_36 : decode cX6_ofMachine 36 = .ok (.aload_n 3, 1) := by decide +kernel
theorem dX6_ofMachine_37 : decode cX6_ofMachine 37 = .ok (.getfield 201, 3) := by decide +kernel
theorem dX6_ofMachine_40 : decode cX6_ofMachine 40 = .ok (.ireturn, 1) := by decide +kernel
theorem dX6_ofMachine_41 : decode cX6_ofMachine 41 = .ok (.aload_n 3, 1) := by decide +kernel
theorem dX6_ofMachine_42 : decode cX6_ofMachine 42 = .ok (.getfield 161, 3) := by decide +kernel
theorem dX6_ofMachine_45 : decode cX6_ofMachine 45 = .ok (.ireturn, 1) := by decide +kernel
theorem dX6_ofMachine_46 : decode cX6_ofMachine 46 = .ok (.aload_n 3, 1) := by decide +kernel
theorem dX6_ofMachine_47 : decode cX6_ofMachine 47 = .ok (.getfield 309, 3) := by decide +kernel
theorem dX6_ofMachine_50 : decode cX6_ofMachine 50 = .ok (.ireturn, 1) := by decide +kernel
theorem dX6_ofMachine_51 : decode cX6_ofMachine 51 = .ok (.aload_n 3, 1) := by decide +kernel
theorem dX6_ofMachine_52 : decode cX6_ofMachine 52 = .ok (.getfield 312, 3) := by decide +kernel
theorem dX6_ofMachine_55 : decode cX6_ofMachine 55 = .ok (.ireturn, 1) := by decide +kernel
theorem dX6_ofMachine_56 : decode cX6_ofMachine 56 = .ok (.new 72, 3) := by decide +kernel
theorem dX6_ofMachine_59 : decode cX6_ofMachine 59 = .ok (.dup, 1) := by decide +kernel
theorem dX6_ofMachine_60 : decode cX6_ofMachine 60 = .ok (.ldc_w 315, 3) := by decide +kernel
theorem dX6_ofMachine_63 : decode cX6_ofMachine 63 = .ok (.invokespecial 76, 3) := by decide +kernel
theorem dX6_ofMachine_66 : decode cX6_ofMachine 66 = .ok (.athrow, 1) := by decide +kernel
theorem dX6_ofPossession_0 : decode cX6_ofPossession 0 = .ok (.aload_n 0, 1) := by decide +kernel
theorem dX6_ofPossession_1 : decode cX6_ofPossession 1 = .ok (.iload_n 1, 1) := by decide +kernel
theorem dX6_ofPossession_2 : decode cX6_ofPossession 2 = .ok (.invokevirtual 181, 3) := by decide +kernel
theorem dX6_ofPossession_5 : decode cX6_ofPossession 5 = .ok (.astore_n 3, 1) := by decide +kernel
theorem dX6_ofPossession_6 : decode cX6_ofPossession 6 = .ok (.iload_n 2, 1) := by decide +kernel
theorem dX6_ofPossession_7 : decode cX6_ofPossession 7 = .ok (.tableswitch 106 0 9 #[53, 58, 63, 68, 73, 78, 83, 91, 96, 101], 53) := by decide +kernel
theorem dX6_ofPossession_60 : decode cX6_ofPossession 60 = .ok (.aload_n 3, 1) := by decide +kernel
theorem dX6_ofPossession_61 : decode cX6_ofPossession 61 = .ok (.getfield 191, 3) := by decide +kernel
theorem dX6_ofPossession_64 : decode cX6_ofPossession 64 = .ok (.ireturn, 1) := by decide +kernel
theorem dX6_ofPossession_65 : decode cX6_ofPossession 65 = .ok (.aload_n 3, 1) := by decide +kernel
theorem dX6_ofPossession_66 : decode cX6_ofPossession 66 = .ok (.getfield 317, 3) := by decide +kernel
theorem dX6_ofPossession_69 : decode cX6_ofPossession 69 = .ok (.ireturn, 1) := by decide +kernel
theorem dX6_ofPossession_70 : decode cX6_ofPossession 70 = .ok (.aload_n 3, 1) := by decide +kernel
theorem dX6_ofPossession_71 : decode cX6_ofPossession 71 = .ok (.getfield 250, 3) := by decide +kernel
theorem dX6_ofPossession_74 : decode cX6_ofPossession 74 = .ok (.ireturn, 1) := by decide +kernel
theorem dX6_ofPossession_75 : decode cX6_ofPossession 75 = .ok (.aload_n 3, 1) := by decide +kernel
theorem dX6_ofPossession_76 : decode cX6_ofPossession 76 = .ok (.getfield 247, 3) := by decide +kernel
theorem dX6_ofPossession_79 : decode cX6_ofPossession 79 = .ok (.ireturn, 1) := by decide +kernel
theorem dX6_ofPossession_80 : decode cX6_ofPossession 80 = .ok (.aload_n 3, 1) := by decide +kernel
theorem dX6_ofPossession_81 : decode cX6_ofPossession 81 = .ok (.getfield 227, 3) := by decide +kernel
end
section
theorem dX6_ofPossession_84 : decode cX6_ofPossession 84 = .ok (.ireturn, 1) := by decide +kernel
theorem dX6_ofPossession_85 : decode cX6_ofPossession 85 = .ok (.aload_n 3, 1) := by decide +kernel
theorem dX6_ofPossession_86 : decode cX6_ofPossession 86 = .ok (.getfield 211, 3) := by decide +kernel
theorem dX6_ofPossession_89 : decode cX6_ofPossession 89 = .ok (.ireturn, 1) := by decide +kernel
theorem dX6_ofPossession_90 : decode cX6_ofPossession 90 = .ok (.aload_n 3, 1) := by decide +kernel
theorem dX6_ofPossession_91 : decode cX6_ofPossession 91 = .ok (.getfield 196, 3) := by decide +kernel
theorem dX6_ofPossession_94 : decode cX6_ofPossession 94 = .ok (.invokevirtual 104, 3) := by decide +kernel
theorem dX6_ofPossession_97 : decode cX6_ofPossession 97 = .ok (.ireturn, 1) := by decide +kernel
theorem dX6_ofPossession_98 : decode cX6_ofPossession 98 = .ok (.aload_n 3, 1) := by decide +kernel
theorem dX6_ofPossession_99 : decode cX6_ofPossession 99 = .ok (.invokevirtual 208, 3) := by decide +kernel
theorem dX6_ofPossession_102 : decode cX6_ofPossession 102 = .ok (.ireturn, 1) := by decide +kernel
theorem dX6_ofPossession_103 : decode cX6_ofPossession 103 = .ok (.aload_n 3, 1) := by decide +kernel
theorem dX6_ofPossession_104 : decode cX6_ofPossession 104 = .ok (.invokevirtual 242, 3) := by decide +kernel
theorem dX6_ofPossession_107 : decode cX6_ofPossession 107 = .ok (.ireturn, 1) := by decide +kernel
theorem dX6_ofPossession_108 : decode cX6_ofPossession 108 = .ok (.aload_n 3, 1) := by decide +kernel
theorem dX6_ofPossession_109 : decode cX6_ofPossession 109 = .ok (.getfield 259, 3) := by decide +kernel
theorem dX6_ofPossession_112 : decode cX6_ofPossession 112 = .ok (.ireturn, 1) := by decide +kernel
theorem dX6_ofPossession_113 : decode cX6_ofPossession 113 = .ok (.new 72, 3) := by decide +kernel
theorem dX6_ofPossession_116 : decode cX6_ofPossession 116 = .ok (.dup, 1) := by decide +kernel
theorem dX6_ofPossession_117 : decode cX6_ofPossession 117 = .ok (.ldc_w 320, 3) := by decide +kernel
theorem dX6_ofPossession_120 : decode cX6_ofPossession 120 = .ok (.invokespecial 76, 3) := by decide +kernel
theorem dX6_ofPossession_123 : decode cX6_ofPossession 123 = .ok (.athrow, 1) := by decide +kernel
theorem dX6_many_0 : decode cX6_many 0 = .ok (.iload_n 1, 1) := by decide +kernel
theorem dX6_many_1 : decode cX6_many 1 = .ok (.tableswitch 179 0 16 #[83, 88, 96, 104, 109, 115, 121, 127, 133, 139, 144, 149, 154, 159, 164, 169, 174], 83) := by decide +kernel
theorem dX6_many_84 : decode cX6_many 84 = .ok (.aload_n 0, 1) := by decide +kernel
theorem dX6_many_85 : decode cX6_many 85 = .ok (.getfield 42, 3) := by decide +kernel
theorem dX6_many_88 : decode cX6_many 88 = .ok (.ireturn, 1) := by decide +kernel
theorem dX6_many_89 : decode cX6_many 89 = .ok (.aload_n 0, 1) := by decide +kernel
theorem dX6_many_90 : decode cX6_many 90 = .ok (.getfield 22, 3) := by decide +kernel
theorem dX6_many_93 : decode cX6_many 93 = .ok (.invokevirtual 104, 3) := by decide +kernel
theorem dX6_many_96 : decode cX6_many 96 = .ok (.ireturn, 1) := by decide +kernel
theorem dX6_many_97 : decode cX6_many 97 = .ok (.aload_n 0, 1) := by decide +kernel
theorem dX6_many_98 : decode cX6_many 98 = .ok (.getfield 18, 3) := by decide +kernel
theorem dX6_many_101 : decode cX6_many 101 = .ok (.invokevirtual 104, 3) := by decide +kernel
theorem dX6_many_104 : decode cX6_many 104 = .ok (.ireturn, 1) := by decide +kernel
theorem dX6_many_105 : decode cX6_many 105 = .ok (.aload_n 0, 1) := by decide +kernel
theorem dX6_many_106 : decode cX6_many 106 = .ok (.invokevirtual 322, 3) := by decide +kernel
theorem dX6_many_109 : decode cX6_many 109 = .ok (.ireturn, 1) := by decide +kernel
theorem dX6_many_110 : decode cX6_many 110 = .ok (.aload_n 0, 1) := by decide +kernel
theorem dX6_many_111 : decode cX6_many 111 = .ok (.iconst 0, 1) := by decide +kernel
theorem dX6_many_112 : decode cX6_many 112 = .ok (.invokevirtual 325, 3) := by decide +kernel
theorem dX6_many_115 : decode cX6_many 115 = .ok (.ireturn, 1) := by decide +kernel
theorem dX6_many_116 : decode cX6_many 116 = .ok (.aload_n 0, 1) := by decide +kernel
theorem dX6_many_117 : decode cX6_many 117 = .ok (.iconst 1, 1) := by decide +kernel
theorem dX6_many_118 : decode cX6_many 118 = .ok (.invokevirtual 325, 3) := by decide +kernel
theorem dX6_many_121 : decode cX6_many 121 = .ok (.ireturn, 1) := by decide +kernel
theorem dX6_many_122 : decode cX6_many 122 = .ok (.aload_n 0, 1) := by decide +kernel
theorem dX6_many_123 : decode cX6_many 123 = .ok (.iconst 2, 1) := by decide +kernel
theorem dX6_many_124 : decode cX6_many 124 = .ok (.invokevirtual 325, 3) := by decide +kernel
theorem dX6_many_127 : decode cX6_many 127 = .ok (.ireturn, 1) := by decide +kernel
theorem dX6_many_128 : decode cX6_many 128 = .ok (.aload_n 0, 1) := by decide +kernel
theorem dX6_many_129 : decode cX6_many 129 = .ok (.iconst 3, 1) := by decide +kernel
theorem dX6_many_130 : decode cX6_many 130 = .ok (.invokevirtual 325, 3) := by decide +kernel
theorem dX6_many_133 : decode cX6_many 133 = .ok (.ireturn, 1) := by decide +kernel
theorem dX6_many_134 : decode cX6_many 134 = .ok (.aload_n 0, 1) := by decide +kernel
theorem dX6_many_135 : decode cX6_many 135 = .ok (.iconst 4, 1) := by decide +kernel
theorem dX6_many_136 : decode cX6_many 136 = .ok (.invokevirtual 325, 3) := by decide +kernel
theorem dX6_many_139 : decode cX6_many 139 = .ok (.ireturn, 1) := by decide +kernel
theorem dX6_many_140 : decode cX6_many 140 = .ok (.aload_n 0, 1) := by decide +kernel
theorem dX6_many_141 : decode cX6_many 141 = .ok (.getfield 49, 3) := by decide +kernel
theorem dX6_many_144 : decode cX6_many 144 = .ok (.ireturn, 1) := by decide +kernel
theorem dX6_many_145 : decode cX6_many 145 = .ok (.aload_n 0, 1) := by decide +kernel
theorem dX6_many_146 : decode cX6_many 146 = .ok (.getfield 52, 3) := by decide +kernel
theorem dX6_many_149 : decode cX6_many 149 = .ok (.ireturn, 1) := by decide +kernel
theorem dX6_many_150 : decode cX6_many 150 = .ok (.aload_n 0, 1) := by decide +kernel
theorem dX6_many_151 : decode cX6_many 151 = .ok (.getfield 55, 3) := by decide +kernel
theorem dX6_many_154 : decode cX6_many 154 = .ok (.ireturn, 1) := by decide +kernel
theorem dX6_many_155 : decode cX6_many 155 = .ok (.aload_n 0, 1) := by decide +kernel
theorem dX6_many_156 : decode cX6_many 156 = .ok (.getfield 58, 3) := by decide +kernel
theorem dX6_many_159 : decode cX6_many 159 = .ok (.ireturn, 1) := by decide +kernel
theorem dX6_many_160 : decode cX6_many 160 = .ok (.aload_n 0, 1) := by decide +kernel
theorem dX6_many_161 : decode cX6_many 161 = .ok (.invokevirtual 328, 3) := by decide +kernel
theorem dX6_many_164 : decode cX6_many 164 = .ok (.ireturn, 1) := by decide +kernel
theorem dX6_many_165 : decode cX6_many 165 = .ok (.aload_n 0, 1) := by decide +kernel
theorem dX6_many_166 : decode cX6_many 166 = .ok (.invokevirtual 331, 3) := by decide +kernel
theorem dX6_many_169 : decode cX6_many 169 = .ok (.ireturn, 1) := by decide +kernel
theorem dX6_many_170 : decode cX6_many 170 = .ok (.aload_n 0, 1) := by decide +kernel
theorem dX6_many_171 : decode cX6_many 171 = .ok (.getfield 46, 3) := by decide +kernel
theorem dX6_many_174 : decode cX6_many 174 = .ok (.ireturn, 1) := by decide +kernel
theorem dX6_many_175 : decode cX6_many 175 = .ok (.aload_n 0, 1) := by decide +kernel
theorem dX6_many_176 : decode cX6_many 176 = .ok (.getfield 61, 3) := by decide +kernel
theorem dX6_many_179 : decode cX6_many 179 = .ok (.ireturn, 1) := by decide +kernel
theorem dX6_many_180 : decode cX6_many 180 = .ok (.new 72, 3) := by decide +kernel
theorem dX6_many_183 : decode cX6_many 183 = .ok (.dup, 1) := by decide +kernel
theorem dX6_many_184 : decode cX6_many 184 = .ok (.ldc_w 334, 3) := by decide +kernel
theorem dX6_many_187 : decode cX6_many 187 = .ok (.invokespecial 76, 3) := by decide +kernel
theorem dX6_many_190 : decode cX6_many 190 = .ok (.athrow, 1) := by decide +kernel
theorem dX6_meanWear_0 : decode cX6_meanWear 0 = .ok (.iload_n 1, 1) := by decide +kernel
theorem dX6_meanWear_1 : decode cX6_meanWear 1 = .ok (.ifCond .lt 8, 3) := by decide +kernel
theorem dX6_meanWear_4 : decode cX6_meanWear 4 = .ok (.iload_n 1, 1) := by decide +kernel
theorem dX6_meanWear_5 : decode cX6_meanWear 5 = .ok (.iconst 2, 1) := by decide +kernel
theorem dX6_meanWear_6 : decode cX6_meanWear 6 = .ok (.if_icmp .lt 14, 3) := by decide +kernel
theorem dX6_meanWear_9 : decode cX6_meanWear 9 = .ok (.new 125, 3) := by decide +kernel
theorem dX6_meanWear_12 : decode cX6_meanWear 12 = .ok (.dup, 1) := by decide +kernel
theorem dX6_meanWear_13 : decode cX6_meanWear 13 = .ok (.ldc_w 336, 3) := by decide +kernel
theorem dX6_meanWear_16 : decode cX6_meanWear 16 = .ok (.invokespecial 129, 3) := by decide +kernel
theorem dX6_meanWear_19 : decode cX6_meanWear 19 = .ok (.athrow, 1) := by decide +kernel
theorem dX6_meanWear_20 : decode cX6_meanWear 20 = .ok (.iconst 0, 1) := by decide +kernel
theorem dX6_meanWear_21 : decode cX6_meanWear 21 = .ok (.istore_n 2, 1) := by decide +kernel
theorem dX6_meanWear_22 : decode cX6_meanWear 22 = .ok (.iconst 0, 1) := by decide +kernel
theorem dX6_meanWear_23 : decode cX6_meanWear 23 = .ok (.istore_n 3, 1) := by decide +kernel
theorem dX6_meanWear_24 : decode cX6_meanWear 24 = .ok (.iload_n 3, 1) := by decide +kernel
theorem dX6_meanWear_25 : decode cX6_meanWear 25 = .ok (.bipush 10, 2) := by decide +kernel
theorem dX6_meanWear_27 : decode cX6_meanWear 27 = .ok (.if_icmp .ge 29, 3) := by decide +kernel
theorem dX6_meanWear_30 : decode cX6_meanWear 30 = .ok (.iload_n 2, 1) := by decide +kernel
theorem dX6_meanWear_31 : decode cX6_meanWear 31 = .ok (.aload_n 0, 1) := by decide +kernel
theorem dX6_meanWear_32 : decode cX6_meanWear 32 = .ok (.getfield 11, 3) := by decide +kernel
theorem dX6_meanWear_35 : decode cX6_meanWear 35 = .ok (.iload_n 1, 1) := by decide +kernel
theorem dX6_meanWear_36 : decode cX6_meanWear 36 = .ok (.bipush 10, 2) := by decide +kernel
theorem dX6_meanWear_38 : decode cX6_meanWear 38 = .ok (.imul, 1) := by decide +kernel
theorem dX6_meanWear_39 : decode cX6_meanWear 39 = .ok (.iload_n 3, 1) := by decide +kernel
theorem dX6_meanWear_40 : decode cX6_meanWear 40 = .ok (.iadd, 1) := by decide +kernel
theorem dX6_meanWear_41 : decode cX6_meanWear 41 = .ok (.aaload, 1) := by decide +kernel
theorem dX6_meanWear_42 : decode cX6_meanWear 42 = .ok (.getfield 114, 3) := by decide +kernel
theorem dX6_meanWear_45 : decode cX6_meanWear 45 = .ok (.getfield 274, 3) := by decide +kernel
theorem dX6_meanWear_48 : decode cX6_meanWear 48 = .ok (.iadd, 1) := by decide +kernel
theorem dX6_meanWear_49 : decode cX6_meanWear 49 = .ok (.istore_n 2, 1) := by decide +kernel
theorem dX6_meanWear_50 : decode cX6_meanWear 50 = .ok (.iinc 3 1, 3) := by decide +kernel
theorem dX6_meanWear_53 : decode cX6_meanWear 53 = .ok (.goto (-29), 3) := by decide +kernel
theorem dX6_meanWear_56 : decode cX6_meanWear 56 = .ok (.iload_n 2, 1) := by decide +kernel
theorem dX6_meanWear_57 : decode cX6_meanWear 57 = .ok (.i2d, 1) := by decide +kernel
theorem dX6_meanWear_58 : decode cX6_meanWear 58 = .ok (.ldc2_w 338, 3) := by decide +kernel
theorem dX6_meanWear_61 : decode cX6_meanWear 61 = .ok (.ddiv, 1) := by decide +kernel
theorem dX6_meanWear_62 : decode cX6_meanWear 62 = .ok (.dreturn, 1) := by decide +kernel
theorem dX6_couldSee_0 : decode cX6_couldSee 0 = .ok (.aload_n 0, 1) := by decide +kernel
theorem dX6_couldSee_1 : decode cX6_couldSee 1 = .ok (.iload_n 1, 1) := by decide +kernel
theorem dX6_couldSee_2 : decode cX6_couldSee 2 = .ok (.invokevirtual 340, 3) := by decide +kernel
theorem dX6_couldSee_5 : decode cX6_couldSee 5 = .ok (.iconst 0, 1) := by decide +kernel
theorem dX6_couldSee_6 : decode cX6_couldSee 6 = .ok (.istore_n 2, 1) := by decide +kernel
theorem dX6_couldSee_7 : decode cX6_couldSee 7 = .ok (.iload_n 2, 1) := by decide +kernel
theorem dX6_couldSee_8 : decode cX6_couldSee 8 = .ok (.aload_n 0, 1) := by decide +kernel
theorem dX6_couldSee_9 : decode cX6_couldSee 9 = .ok (.getfield 18, 3) := by decide +kernel
theorem dX6_couldSee_12 : decode cX6_couldSee 12 = .ok (.invokevirtual 104, 3) := by decide +kernel
theorem dX6_couldSee_15 : decode cX6_couldSee 15 = .ok (.if_icmp .ge 38, 3) := by decide +kernel
theorem dX6_couldSee_18 : decode cX6_couldSee 18 = .ok (.aload_n 0, 1) := by decide +kernel
theorem dX6_couldSee_19 : decode cX6_couldSee 19 = .ok (.getfield 18, 3) := by decide +kernel
theorem dX6_couldSee_22 : decode cX6_couldSee 22 = .ok (.iload_n 2, 1) := by decide +kernel
theorem dX6_couldSee_23 : decode cX6_couldSee 23 = .ok (.invokevirtual 130, 3) := by decide +kernel
theorem dX6_couldSee_26 : decode cX6_couldSee 26 = .ok (.checkcast 110, 3) := by decide +kernel
theorem dX6_couldSee_29 : decode cX6_couldSee 29 = .ok (.iload_n 1, 1) := by decide +kernel
theorem dX6_couldSee_30 : decode cX6_couldSee 30 = .ok (.invokevirtual 343, 3) := by decide +kernel
theorem dX6_couldSee_33 : decode cX6_couldSee 33 = .ok (.astore_n 3, 1) := by decide +kernel
theorem dX6_couldSee_34 : decode cX6_couldSee 34 = .ok (.aload_n 3, 1) := by decide +kernel
theorem dX6_couldSee_35 : decode cX6_couldSee 35 = .ok (.ifnull 12, 3) := by decide +kernel
theorem dX6_couldSee_38 : decode cX6_couldSee 38 = .ok (.aload_n 3, 1) := by decide +kernel
theorem dX6_couldSee_39 : decode cX6_couldSee 39 = .ok (.getfield 277, 3) := by decide +kernel
theorem dX6_couldSee_42 : decode cX6_couldSee 42 = .ok (.ifCond .le 5, 3) := by decide +kernel
theorem dX6_couldSee_45 : decode cX6_couldSee 45 = .ok (.iload_n 2, 1) := by decide +kernel
theorem dX6_couldSee_46 : decode cX6_couldSee 46 = .ok (.ireturn, 1) := by decide +kernel
theorem dX6_couldSee_47 : decode cX6_couldSee 47 = .ok (.iinc 2 1, 3) := by decide +kernel
theorem dX6_couldSee_50 : decode cX6_couldSee 50 = .ok (.goto (-43), 3) := by decide +kernel
theorem dX6_couldSee_53 : decode cX6_couldSee 53 = .ok (.iconst (-1), 1) := by decide +kernel
theorem dX6_couldSee_54 : decode cX6_couldSee 54 = .ok (.ireturn, 1) := by decide +kernel
theorem dX6_firstRisk_0 : decode cX6_firstRisk 0 = .ok (.aload_n 0, 1) := by decide +kernel
theorem dX6_firstRisk_1 : decode cX6_firstRisk 1 = .ok (.iload_n 1, 1) := by decide +kernel
theorem dX6_firstRisk_2 : decode cX6_firstRisk 2 = .ok (.invokevirtual 64, 3) := by decide +kernel
theorem dX6_firstRisk_5 : decode cX6_firstRisk 5 = .ok (.astore_n 3, 1) := by decide +kernel
theorem dX6_firstRisk_6 : decode cX6_firstRisk 6 = .ok (.aload_n 0, 1) := by decide +kernel
theorem dX6_firstRisk_7 : decode cX6_firstRisk 7 = .ok (.iload_n 2, 1) := by decide +kernel
theorem dX6_firstRisk_8 : decode cX6_firstRisk 8 = .ok (.invokevirtual 82, 3) := by decide +kernel
theorem dX6_firstRisk_11 : decode cX6_firstRisk 11 = .ok (.aload_n 0, 1) := by decide +kernel
theorem dX6_firstRisk_12 : decode cX6_firstRisk 12 = .ok (.getfield 38, 3) := by decide +kernel
theorem dX6_firstRisk_15 : decode cX6_firstRisk 15 = .ok (.aload_n 3, 1) := by decide +kernel
theorem dX6_firstRisk_16 : decode cX6_firstRisk 16 = .ok (.invokevirtual 346, 3) := by decide +kernel
theorem dX6_firstRisk_19 : decode cX6_firstRisk 19 = .ok (.iconst 0, 1) := by decide +kernel
theorem dX6_firstRisk_20 : decode cX6_firstRisk 20 = .ok (.istore 4, 2) := by decide +kernel
theorem dX6_firstRisk_22 : decode cX6_firstRisk 22 = .ok (.iload 4, 2) := by decide +kernel
theorem dX6_firstRisk_24 : decode cX6_firstRisk 24 = .ok (.sipush 200, 3) := by decide +kernel
theorem dX6_firstRisk_27 : decode cX6_firstRisk 27 = .ok (.if_icmp .gt 34, 3) := by decide +kernel
theorem dX6_firstRisk_30 : decode cX6_firstRisk 30 = .ok (.aload_n 0, 1) := by decide +kernel
theorem dX6_firstRisk_31 : decode cX6_firstRisk 31 = .ok (.getfield 38, 3) := by decide +kernel
theorem dX6_firstRisk_34 : decode cX6_firstRisk 34 = .ok (.aload_n 0, 1) := by decide +kernel
theorem dX6_firstRisk_35 : decode cX6_firstRisk 35 = .ok (.getfield 46, 3) := by decide +kernel
theorem dX6_firstRisk_38 : decode cX6_firstRisk 38 = .ok (.invokevirtual 350, 3) := by decide +kernel
theorem dX6_firstRisk_41 : decode cX6_firstRisk 41 = .ok (.ifCond .eq 6, 3) := by decide +kernel
theorem dX6_firstRisk_44 : decode cX6_firstRisk 44 = .ok (.iload 4, 2) := by decide +kernel
theorem dX6_firstRisk_46 : decode cX6_firstRisk 46 = .ok (.ireturn, 1) := by decide +kernel
theorem dX6_firstRisk_47 : decode cX6_firstRisk 47 = .ok (.aload_n 0, 1) := by decide +kernel
theorem dX6_firstRisk_48 : decode cX6_firstRisk 48 = .ok (.getfield 38, 3) := by decide +kernel
theorem dX6_firstRisk_51 : decode cX6_firstRisk 51 = .ok (.iload_n 2, 1) := by decide +kernel
theorem dX6_firstRisk_52 : decode cX6_firstRisk 52 = .ok (.invokevirtual 353, 3) := by decide +kernel
theorem dX6_firstRisk_55 : decode cX6_firstRisk 55 = .ok (.iinc 4 1, 3) := by decide +kernel
theorem dX6_firstRisk_58 : decode cX6_firstRisk 58 = .ok (.goto (-36), 3) := by decide +kernel
theorem dX6_firstRisk_61 : decode cX6_firstRisk 61 = .ok (.iconst (-1), 1) := by decide +kernel
theorem dX6_firstRisk_62 : decode cX6_firstRisk 62 = .ok (.ireturn, 1) := by decide +kernel
theorem dX6_bestWork_0 : decode cX6_bestWork 0 = .ok (.aload_n 0, 1) := by decide +kernel
theorem dX6_bestWork_1 : decode cX6_bestWork 1 = .ok (.iload_n 1, 1) := by decide +kernel
theorem dX6_bestWork_2 : decode cX6_bestWork 2 = .ok (.invokevirtual 64, 3) := by decide +kernel
theorem dX6_bestWork_5 : decode cX6_bestWork 5 = .ok (.astore 4, 2) := by decide +kernel
theorem dX6_bestWork_7 : decode cX6_bestWork 7 = .ok (.aload_n 0, 1) := by decide +kernel
theorem dX6_bestWork_8 : decode cX6_bestWork 8 = .ok (.iload_n 2, 1) := by decide +kernel
theorem dX6_bestWork_9 : decode cX6_bestWork 9 = .ok (.invokevirtual 82, 3) := by decide +kernel
theorem dX6_bestWork_12 : decode cX6_bestWork 12 = .ok (.iload_n 3, 1) := by decide +kernel
theorem dX6_bestWork_13 : decode cX6_bestWork 13 = .ok (.iconst 1, 1) := by decide +kernel
theorem dX6_bestWork_14 : decode cX6_bestWork 14 = .ok (.if_icmp .lt 10, 3) := by decide +kernel
theorem dX6_bestWork_17 : decode cX6_bestWork 17 = .ok (.iload_n 3, 1) := by decide +kernel
theorem dX6_bestWork_18 : decode cX6_bestWork 18 = .ok (.sipush 200, 3) := by decide +kernel
theorem dX6_bestWork_21 : decode cX6_bestWork 21 = .ok (.if_icmp .le 14, 3) := by decide +kernel
theorem dX6_bestWork_24 : decode cX6_bestWork 24 = .ok (.new 72, 3) := by decide +kernel
theorem dX6_bestWork_27 : decode cX6_bestWork 27 = .ok (.dup, 1) := by decide +kernel
theorem dX6_bestWork_28 : decode cX6_bestWork 28 = .ok (.ldc_w 356, 3) := by decide +kernel
theorem dX6_bestWork_31 : decode cX6_bestWork 31 = .ok (.invokespecial 76, 3) := by decide +kernel
theorem dX6_bestWork_34 : decode cX6_bestWork 34 = .ok (.athrow, 1) := by decide +kernel
theorem dX6_bestWork_35 : decode cX6_bestWork 35 = .ok (.iconst 0, 1) := by decide +kernel
theorem dX6_bestWork_36 : decode cX6_bestWork 36 = .ok (.istore 5, 2) := by decide +kernel
theorem dX6_bestWork_38 : decode cX6_bestWork 38 = .ok (.aload_n 0, 1) := by decide +kernel
theorem dX6_bestWork_39 : decode cX6_bestWork 39 = .ok (.aload 4, 2) := by decide +kernel
theorem dX6_bestWork_41 : decode cX6_bestWork 41 = .ok (.iconst 0, 1) := by decide +kernel
theorem dX6_bestWork_42 : decode cX6_bestWork 42 = .ok (.iload_n 2, 1) := by decide +kernel
theorem dX6_bestWork_43 : decode cX6_bestWork 43 = .ok (.iload_n 3, 1) := by decide +kernel
theorem dX6_bestWork_44 : decode cX6_bestWork 44 = .ok (.invokevirtual 358, 3) := by decide +kernel
theorem dX6_bestWork_47 : decode cX6_bestWork 47 = .ok (.istore 6, 2) := by decide +kernel
theorem dX6_bestWork_49 : decode cX6_bestWork 49 = .ok (.iconst 1, 1) := by decide +kernel
theorem dX6_bestWork_50 : decode cX6_bestWork 50 = .ok (.istore 7, 2) := by decide +kernel
theorem dX6_bestWork_52 : decode cX6_bestWork 52 = .ok (.iload 7, 2) := by decide +kernel
theorem dX6_bestWork_54 : decode cX6_bestWork 54 = .ok (.iconst 3, 1) := by decide +kernel
theorem dX6_bestWork_55 : decode cX6_bestWork 55 = .ok (.if_icmp .gt 36, 3) := by decide +kernel
theorem dX6_bestWork_58 : decode cX6_bestWork 58 = .ok (.aload_n 0, 1) := by decide +kernel
theorem dX6_bestWork_59 : decode cX6_bestWork 59 = .ok (.aload 4, 2) := by decide +kernel
theorem dX6_bestWork_61 : decode cX6_bestWork 61 = .ok (.iload 7, 2) := by decide +kernel
theorem dX6_bestWork_63 : decode cX6_bestWork 63 = .ok (.iload_n 2, 1) := by decide +kernel
theorem dX6_bestWork_64 : decode cX6_bestWork 64 = .ok (.iload_n 3, 1) := by decide +kernel
theorem dX6_bestWork_65 : decode cX6_bestWork 65 = .ok (.invokevirtual 358, 3) := by decide +kernel
theorem dX6_bestWork_68 : decode cX6_bestWork 68 = .ok (.istore 8, 2) := by decide +kernel
theorem dX6_bestWork_70 : decode cX6_bestWork 70 = .ok (.iload 8, 2) := by decide +kernel
theorem dX6_bestWork_72 : decode cX6_bestWork 72 = .ok (.iload 6, 2) := by decide +kernel
theorem dX6_bestWork_74 : decode cX6_bestWork 74 = .ok (.if_icmp .ge 11, 3) := by decide +kernel
theorem dX6_bestWork_77 : decode cX6_bestWork 77 = .ok (.iload 7, 2) := by decide +kernel
theorem dX6_bestWork_79 : decode cX6_bestWork 79 = .ok (.istore 5, 2) := by decide +kernel
theorem dX6_bestWork_81 : decode cX6_bestWork 81 = .ok (.iload 8, 2) := by decide +kernel
theorem dX6_bestWork_83 : decode cX6_bestWork 83 = .ok (.istore 6, 2) := by decide +kernel
theorem dX6_bestWork_85 : decode cX6_bestWork 85 = .ok (.iinc 7 1, 3) := by decide +kernel
theorem dX6_bestWork_88 : decode cX6_bestWork 88 = .ok (.goto (-36), 3) := by decide +kernel
theorem dX6_bestWork_91 : decode cX6_bestWork 91 = .ok (.iload 5, 2) := by decide +kernel
theorem dX6_bestWork_93 : decode cX6_bestWork 93 = .ok (.ireturn, 1) := by decide +kernel
theorem dX6_freeDay_0 : decode cX6_freeDay 0 = .ok (.aload_n 0, 1) := by decide +kernel
theorem dX6_freeDay_1 : decode cX6_freeDay 1 = .ok (.iload_n 1, 1) := by decide +kernel
theorem dX6_freeDay_2 : decode cX6_freeDay 2 = .ok (.iload_n 2, 1) := by decide +kernel
theorem dX6_freeDay_3 : decode cX6_freeDay 3 = .ok (.iload_n 3, 1) := by decide +kernel
theorem dX6_freeDay_4 : decode cX6_freeDay 4 = .ok (.invokevirtual 99, 3) := by decide +kernel
theorem dX6_freeDay_7 : decode cX6_freeDay 7 = .ok (.aload_n 0, 1) := by decide +kernel
theorem dX6_freeDay_8 : decode cX6_freeDay 8 = .ok (.getfield 42, 3) := by decide +kernel
theorem dX6_freeDay_11 : decode cX6_freeDay 11 = .ok (.iconst 5, 1) := by decide +kernel
theorem dX6_freeDay_12 : decode cX6_freeDay 12 = .ok (.iadd, 1) := by decide +kernel
theorem dX6_freeDay_13 : decode cX6_freeDay 13 = .ok (.istore 4, 2) := by decide +kernel
theorem dX6_freeDay_15 : decode cX6_freeDay 15 = .ok (.iload 4, 2) := by decide +kernel
theorem dX6_freeDay_17 : decode cX6_freeDay 17 = .ok (.sipush 2000, 3) := by decide +kernel
theorem dX6_freeDay_20 : decode cX6_freeDay 20 = .ok (.if_icmp .gt 24, 3) := by decide +kernel
theorem dX6_freeDay_23 : decode cX6_freeDay 23 = .ok (.aload_n 0, 1) := by decide +kernel
theorem dX6_freeDay_24 : decode cX6_freeDay 24 = .ok (.iload_n 1, 1) := by decide +kernel
theorem dX6_freeDay_25 : decode cX6_freeDay 25 = .ok (.iload_n 2, 1) := by decide +kernel
theorem dX6_freeDay_26 : decode cX6_freeDay 26 = .ok (.iload_n 3, 1) := by decide +kernel
theorem dX6_freeDay_27 : decode cX6_freeDay 27 = .ok (.iload 4, 2) := by decide +kernel
theorem dX6_freeDay_29 : decode cX6_freeDay 29 = .ok (.invokevirtual 170, 3) := by decide +kernel
theorem dX6_freeDay_32 : decode cX6_freeDay 32 = .ok (.ifCond .eq 6, 3) := by decide +kernel
theorem dX6_freeDay_35 : decode cX6_freeDay 35 = .ok (.iload 4, 2) := by decide +kernel
theorem dX6_freeDay_37 : decode cX6_freeDay 37 = .ok (.ireturn, 1) := by decide +kernel
theorem dX6_freeDay_38 : decode cX6_freeDay 38 = .ok (.iinc 4 1, 3) := by decide +kernel
theorem dX6_freeDay_41 : decode cX6_freeDay 41 = .ok (.goto (-26), 3) := by decide +kernel
theorem dX6_freeDay_44 : decode cX6_freeDay 44 = .ok (.iconst (-1), 1) := by decide +kernel
theorem dX6_freeDay_45 : decode cX6_freeDay 45 = .ok (.ireturn, 1) := by decide +kernel
theorem dX6_wouldOverrun_0 : decode cX6_wouldOverrun 0 = .ok (.aload_n 0, 1) := by decide +kernel
theorem dX6_wouldOverrun_1 : decode cX6_wouldOverrun 1 = .ok (.iload_n 1, 1) := by decide +kernel
theorem dX6_wouldOverrun_2 : decode cX6_wouldOverrun 2 = .ok (.invokevirtual 181, 3) := by decide +kernel
theorem dX6_wouldOverrun_5 : decode cX6_wouldOverrun 5 = .ok (.astore_n 2, 1) := by decide +kernel
theorem dX6_wouldOverrun_6 : decode cX6_wouldOverrun 6 = .ok (.aload_n 2, 1) := by decide +kernel
theorem dX6_wouldOverrun_7 : decode cX6_wouldOverrun 7 = .ok (.invokevirtual 362, 3) := by decide +kernel
theorem dX6_wouldOverrun_10 : decode cX6_wouldOverrun 10 = .ok (.ifCond .ne 14, 3) := by decide +kernel
theorem dX6_wouldOverrun_13 : decode cX6_wouldOverrun 13 = .ok (.new 90, 3) := by decide +kernel
theorem dX6_wouldOverrun_16 : decode cX6_wouldOverrun 16 = .ok (.dup, 1) := by decide +kernel
theorem dX6_wouldOverrun_17 : decode cX6_wouldOverrun 17 = .ok (.ldc_w 366, 3) := by decide +kernel
theorem dX6_wouldOverrun_20 : decode cX6_wouldOverrun 20 = .ok (.invokespecial 94, 3) := by decide +kernel
theorem dX6_wouldOverrun_23 : decode cX6_wouldOverrun 23 = .ok (.athrow, 1) := by decide +kernel
theorem dX6_wouldOverrun_24 : decode cX6_wouldOverrun 24 = .ok (.iconst 0, 1) := by decide +kernel
theorem dX6_wouldOverrun_25 : decode cX6_wouldOverrun 25 = .ok (.aload_n 0, 1) := by decide +kernel
theorem dX6_wouldOverrun_26 : decode cX6_wouldOverrun 26 = .ok (.aload_n 2, 1) := by decide +kernel
theorem dX6_wouldOverrun_27 : decode cX6_wouldOverrun 27 = .ok (.invokevirtual 368, 3) := by decide +kernel
theorem dX6_wouldOverrun_30 : decode cX6_wouldOverrun 30 = .ok (.aload_n 2, 1) := by decide +kernel
theorem dX6_wouldOverrun_31 : decode cX6_wouldOverrun 31 = .ok (.getfield 211, 3) := by decide +kernel
theorem dX6_wouldOverrun_34 : decode cX6_wouldOverrun 34 = .ok (.isub, 1) := by decide +kernel
theorem dX6_wouldOverrun_35 : decode cX6_wouldOverrun 35 = .ok (.invokestatic 372, 3) := by decide +kernel
theorem dX6_wouldOverrun_38 : decode cX6_wouldOverrun 38 = .ok (.ireturn, 1) := by decide +kernel
theorem dX6_digest_0 : decode cX6_digest 0 = .ok (.ldc2_w 378, 3) := by decide +kernel
theorem dX6_digest_3 : decode cX6_digest 3 = .ok (.lstore_n 1, 1) := by decide +kernel
theorem dX6_digest_4 : decode cX6_digest 4 = .ok (.iconst 0, 1) := by decide +kernel
theorem dX6_digest_5 : decode cX6_digest 5 = .ok (.istore_n 3, 1) := by decide +kernel
theorem dX6_digest_6 : decode cX6_digest 6 = .ok (.iload_n 3, 1) := by decide +kernel
theorem dX6_digest_7 : decode cX6_digest 7 = .ok (.bipush 16, 2) := by decide +kernel
theorem dX6_digest_9 : decode cX6_digest 9 = .ok (.if_icmp .gt 22, 3) := by decide +kernel
theorem dX6_digest_12 : decode cX6_digest 12 = .ok (.lload_n 1, 1) := by decide +kernel
theorem dX6_digest_13 : decode cX6_digest 13 = .ok (.ldc2_w 380, 3) := by decide +kernel
theorem dX6_digest_16 : decode cX6_digest 16 = .ok (.lmul, 1) := by decide +kernel
theorem dX6_digest_17 : decode cX6_digest 17 = .ok (.aload_n 0, 1) := by decide +kernel
theorem dX6_digest_18 : decode cX6_digest 18 = .ok (.iload_n 3, 1) := by decide +kernel
theorem dX6_digest_19 : decode cX6_digest 19 = .ok (.invokevirtual 382, 3) := by decide +kernel
theorem dX6_digest_22 : decode cX6_digest 22 = .ok (.i2l, 1) := by decide +kernel
theorem dX6_digest_23 : decode cX6_digest 23 = .ok (.ladd, 1) := by decide +kernel
theorem dX6_digest_24 : decode cX6_digest 24 = .ok (.lstore_n 1, 1) := by decide +kernel
theorem dX6_digest_25 : decode cX6_digest 25 = .ok (.iinc 3 1, 3) := by decide +kernel
theorem dX6_digest_28 : decode cX6_digest 28 = .ok (.goto (-22), 3) := by decide +kernel
theorem dX6_digest_31 : decode cX6_digest 31 = .ok (.iconst 0, 1) := by decide +kernel
theorem dX6_digest_32 : decode cX6_digest 32 = .ok (.istore_n 3, 1) := by decide +kernel
theorem dX6_digest_33 : decode cX6_digest 33 = .ok (.iload_n 3, 1) := by decide +kernel
theorem dX6_digest_34 : decode cX6_digest 34 = .ok (.bipush 20, 2) := by decide +kernel
theorem dX6_digest_36 : decode cX6_digest 36 = .ok (.if_icmp .ge 16, 3) := by decide +kernel
theorem dX6_digest_39 : decode cX6_digest 39 = .ok (.aload_n 0, 1) := by decide +kernel
theorem dX6_digest_40 : decode cX6_digest 40 = .ok (.lload_n 1, 1) := by decide +kernel
theorem dX6_digest_41 : decode cX6_digest 41 = .ok (.iload_n 3, 1) := by decide +kernel
theorem dX6_digest_42 : decode cX6_digest 42 = .ok (.invokevirtual 385, 3) := by decide +kernel
theorem dX6_digest_45 : decode cX6_digest 45 = .ok (.lstore_n 1, 1) := by decide +kernel
theorem dX6_digest_46 : decode cX6_digest 46 = .ok (.iinc 3 1, 3) := by decide +kernel
theorem dX6_digest_49 : decode cX6_digest 49 = .ok (.goto (-16), 3) := by decide +kernel
theorem dX6_digest_52 : decode cX6_digest 52 = .ok (.iconst 0, 1) := by decide +kernel
theorem dX6_digest_53 : decode cX6_digest 53 = .ok (.istore_n 3, 1) := by decide +kernel
theorem dX6_digest_54 : decode cX6_digest 54 = .ok (.iload_n 3, 1) := by decide +kernel
theorem dX6_digest_55 : decode cX6_digest 55 = .ok (.aload_n 0, 1) := by decide +kernel
theorem dX6_digest_56 : decode cX6_digest 56 = .ok (.getfield 22, 3) := by decide +kernel
theorem dX6_digest_59 : decode cX6_digest 59 = .ok (.invokevirtual 104, 3) := by decide +kernel
theorem dX6_digest_62 : decode cX6_digest 62 = .ok (.if_icmp .ge 39, 3) := by decide +kernel
theorem dX6_digest_65 : decode cX6_digest 65 = .ok (.iconst 0, 1) := by decide +kernel
theorem dX6_digest_66 : decode cX6_digest 66 = .ok (.istore 4, 2) := by decide +kernel
theorem dX6_digest_68 : decode cX6_digest 68 = .ok (.iload 4, 2) := by decide +kernel
theorem dX6_digest_70 : decode cX6_digest 70 = .ok (.iconst 3, 1) := by decide +kernel
theorem dX6_digest_71 : decode cX6_digest 71 = .ok (.if_icmp .gt 24, 3) := by decide +kernel
theorem dX6_digest_74 : decode cX6_digest 74 = .ok (.lload_n 1, 1) := by decide +kernel
theorem dX6_digest_75 : decode cX6_digest 75 = .ok (.ldc2_w 380, 3) := by decide +kernel
theorem dX6_digest_78 : decode cX6_digest 78 = .ok (.lmul, 1) := by decide +kernel
theorem dX6_digest_79 : decode cX6_digest 79 = .ok (.aload_n 0, 1) := by decide +kernel
theorem dX6_digest_80 : decode cX6_digest 80 = .ok (.iload_n 3, 1) := by decide +kernel
theorem dX6_digest_81 : decode cX6_digest 81 = .ok (.iload 4, 2) := by decide +kernel
theorem dX6_digest_83 : decode cX6_digest 83 = .ok (.invokevirtual 389, 3) := by decide +kernel
theorem dX6_digest_86 : decode cX6_digest 86 = .ok (.i2l, 1) := by decide +kernel
theorem dX6_digest_87 : decode cX6_digest 87 = .ok (.ladd, 1) := by decide +kernel
theorem dX6_digest_88 : decode cX6_digest 88 = .ok (.lstore_n 1, 1) := by decide +kernel
theorem dX6_digest_89 : decode cX6_digest 89 = .ok (.iinc 4 1, 3) := by decide +kernel
theorem dX6_digest_92 : decode cX6_digest 92 = .ok (.goto (-24), 3) := by decide +kernel
theorem dX6_digest_95 : decode cX6_digest 95 = .ok (.iinc 3 1, 3) := by decide +kernel
theorem dX6_digest_98 : decode cX6_digest 98 = .ok (.goto (-44), 3) := by decide +kernel
theorem dX6_digest_101 : decode cX6_digest 101 = .ok (.iconst 0, 1) := by decide +kernel
theorem dX6_digest_102 : decode cX6_digest 102 = .ok (.istore_n 3, 1) := by decide +kernel
theorem dX6_digest_103 : decode cX6_digest 103 = .ok (.iload_n 3, 1) := by decide +kernel
theorem dX6_digest_104 : decode cX6_digest 104 = .ok (.aload_n 0, 1) := by decide +kernel
theorem dX6_digest_105 : decode cX6_digest 105 = .ok (.getfield 25, 3) := by decide +kernel
theorem dX6_digest_108 : decode cX6_digest 108 = .ok (.invokevirtual 104, 3) := by decide +kernel
theorem dX6_digest_111 : decode cX6_digest 111 = .ok (.if_icmp .ge 40, 3) := by decide +kernel
theorem dX6_digest_114 : decode cX6_digest 114 = .ok (.iconst 0, 1) := by decide +kernel
theorem dX6_digest_115 : decode cX6_digest 115 = .ok (.istore 4, 2) := by decide +kernel
theorem dX6_digest_117 : decode cX6_digest 117 = .ok (.iload 4, 2) := by decide +kernel
theorem dX6_digest_119 : decode cX6_digest 119 = .ok (.bipush 9, 2) := by decide +kernel
theorem dX6_digest_121 : decode cX6_digest 121 = .ok (.if_icmp .gt 24, 3) := by decide +kernel
theorem dX6_digest_124 : decode cX6_digest 124 = .ok (.lload_n 1, 1) := by decide +kernel
theorem dX6_digest_125 : decode cX6_digest 125 = .ok (.ldc2_w 380, 3) := by decide +kernel
theorem dX6_digest_128 : decode cX6_digest 128 = .ok (.lmul, 1) := by decide +kernel
theorem dX6_digest_129 : decode cX6_digest 129 = .ok (.aload_n 0, 1) := by decide +kernel
theorem dX6_digest_130 : decode cX6_digest 130 = .ok (.iload_n 3, 1) := by decide +kernel
theorem dX6_digest_131 : decode cX6_digest 131 = .ok (.iload 4, 2) := by decide +kernel
theorem dX6_digest_133 : decode cX6_digest 133 = .ok (.invokevirtual 392, 3) := by decide +kernel
theorem dX6_digest_136 : decode cX6_digest 136 = .ok (.i2l, 1) := by decide +kernel
theorem dX6_digest_137 : decode cX6_digest 137 = .ok (.ladd, 1) := by decide +kernel
theorem dX6_digest_138 : decode cX6_digest 138 = .ok (.lstore_n 1, 1) := by decide +kernel
theorem dX6_digest_139 : decode cX6_digest 139 = .ok (.iinc 4 1, 3) := by decide +kernel
theorem dX6_digest_142 : decode cX6_digest 142 = .ok (.goto (-25), 3) := by decide +kernel
theorem dX6_digest_145 : decode cX6_digest 145 = .ok (.iinc 3 1, 3) := by decide +kernel
theorem dX6_digest_148 : decode cX6_digest 148 = .ok (.goto (-45), 3) := by decide +kernel
theorem dX6_digest_151 : decode cX6_digest 151 = .ok (.lload_n 1, 1) := by decide +kernel
theorem dX6_digest_152 : decode cX6_digest 152 = .ok (.ldc2_w 380, 3) := by decide +kernel
theorem dX6_digest_155 : decode cX6_digest 155 = .ok (.lmul, 1) := by decide +kernel
theorem dX6_digest_156 : decode cX6_digest 156 = .ok (.aload_n 0, 1) := by decide +kernel
theorem dX6_digest_157 : decode cX6_digest 157 = .ok (.iconst 0, 1) := by decide +kernel
theorem dX6_digest_158 : decode cX6_digest 158 = .ok (.iconst 0, 1) := by decide +kernel
theorem dX6_digest_159 : decode cX6_digest 159 = .ok (.bipush 9, 2) := by decide +kernel
theorem dX6_digest_161 : decode cX6_digest 161 = .ok (.invokevirtual 395, 3) := by decide +kernel
theorem dX6_digest_164 : decode cX6_digest 164 = .ok (.i2l, 1) := by decide +kernel
theorem dX6_digest_165 : decode cX6_digest 165 = .ok (.ladd, 1) := by decide +kernel
theorem dX6_digest_166 : decode cX6_digest 166 = .ok (.lstore_n 1, 1) := by decide +kernel
theorem dX6_digest_167 : decode cX6_digest 167 = .ok (.lload_n 1, 1) := by decide +kernel
theorem dX6_digest_168 : decode cX6_digest 168 = .ok (.ldc2_w 380, 3) := by decide +kernel
theorem dX6_digest_171 : decode cX6_digest 171 = .ok (.lmul, 1) := by decide +kernel
theorem dX6_digest_172 : decode cX6_digest 172 = .ok (.aload_n 0, 1) := by decide +kernel
theorem dX6_digest_173 : decode cX6_digest 173 = .ok (.iconst 1, 1) := by decide +kernel
theorem dX6_digest_174 : decode cX6_digest 174 = .ok (.iconst 3, 1) := by decide +kernel
theorem dX6_digest_175 : decode cX6_digest 175 = .ok (.iconst 5, 1) := by decide +kernel
theorem dX6_digest_176 : decode cX6_digest 176 = .ok (.invokevirtual 395, 3) := by decide +kernel
theorem dX6_digest_179 : decode cX6_digest 179 = .ok (.i2l, 1) := by decide +kernel
theorem dX6_digest_180 : decode cX6_digest 180 = .ok (.ladd, 1) := by decide +kernel
theorem dX6_digest_181 : decode cX6_digest 181 = .ok (.lreturn, 1) := by decide +kernel
theorem dX6_digestSection_0 : decode cX6_digestSection 0 = .ok (.lload_n 1, 1) := by decide +kernel
theorem dX6_digestSection_1 : decode cX6_digestSection 1 = .ok (.lstore 4, 2) := by decide +kernel
theorem dX6_digestSection_3 : decode cX6_digestSection 3 = .ok (.iconst 0, 1) := by decide +kernel
theorem dX6_digestSection_4 : decode cX6_digestSection 4 = .ok (.istore 6, 2) := by decide +kernel
theorem dX6_digestSection_6 : decode cX6_digestSection 6 = .ok (.iload 6, 2) := by decide +kernel
theorem dX6_digestSection_8 : decode cX6_digestSection 8 = .ok (.bipush 7, 2) := by decide +kernel
theorem dX6_digestSection_10 : decode cX6_digestSection 10 = .ok (.if_icmp .gt 26, 3) := by decide +kernel
theorem dX6_digestSection_13 : decode cX6_digestSection 13 = .ok (.lload 4, 2) := by decide +kernel
theorem dX6_digestSection_15 : decode cX6_digestSection 15 = .ok (.ldc2_w 380, 3) := by decide +kernel
theorem dX6_digestSection_18 : decode cX6_digestSection 18 = .ok (.lmul, 1) := by decide +kernel
theorem dX6_digestSection_19 : decode cX6_digestSection 19 = .ok (.aload_n 0, 1) := by decide +kernel
theorem dX6_digestSection_20 : decode cX6_digestSection 20 = .ok (.iload_n 3, 1) := by decide +kernel
theorem dX6_digestSection_21 : decode cX6_digestSection 21 = .ok (.iload 6, 2) := by decide +kernel
theorem dX6_digestSection_23 : decode cX6_digestSection 23 = .ok (.invokevirtual 399, 3) := by decide +kernel
theorem dX6_digestSection_26 : decode cX6_digestSection 26 = .ok (.i2l, 1) := by decide +kernel
theorem dX6_digestSection_27 : decode cX6_digestSection 27 = .ok (.ladd, 1) := by decide +kernel
theorem dX6_digestSection_28 : decode cX6_digestSection 28 = .ok (.lstore 4, 2) := by decide +kernel
theorem dX6_digestSection_30 : decode cX6_digestSection 30 = .ok (.iinc 6 1, 3) := by decide +kernel
theorem dX6_digestSection_33 : decode cX6_digestSection 33 = .ok (.goto (-27), 3) := by decide +kernel
theorem dX6_digestSection_36 : decode cX6_digestSection 36 = .ok (.iconst 0, 1) := by decide +kernel
theorem dX6_digestSection_37 : decode cX6_digestSection 37 = .ok (.istore 6, 2) := by decide +kernel
theorem dX6_digestSection_39 : decode cX6_digestSection 39 = .ok (.iload 6, 2) := by decide +kernel
theorem dX6_digestSection_41 : decode cX6_digestSection 41 = .ok (.iconst 4, 1) := by decide +kernel
theorem dX6_digestSection_42 : decode cX6_digestSection 42 = .ok (.if_icmp .gt 26, 3) := by decide +kernel
theorem dX6_digestSection_45 : decode cX6_digestSection 45 = .ok (.lload 4, 2) := by decide +kernel
theorem dX6_digestSection_47 : decode cX6_digestSection 47 = .ok (.ldc2_w 380, 3) := by decide +kernel
theorem dX6_digestSection_50 : decode cX6_digestSection 50 = .ok (.lmul, 1) := by decide +kernel
theorem dX6_digestSection_51 : decode cX6_digestSection 51 = .ok (.aload_n 0, 1) := by decide +kernel
theorem dX6_digestSection_52 : decode cX6_digestSection 52 = .ok (.iload_n 3, 1) := by decide +kernel
theorem dX6_digestSection_53 : decode cX6_digestSection 53 = .ok (.iload 6, 2) := by decide +kernel
theorem dX6_digestSection_55 : decode cX6_digestSection 55 = .ok (.invokevirtual 402, 3) := by decide +kernel
theorem dX6_digestSection_58 : decode cX6_digestSection 58 = .ok (.i2l, 1) := by decide +kernel
theorem dX6_digestSection_59 : decode cX6_digestSection 59 = .ok (.ladd, 1) := by decide +kernel
theorem dX6_digestSection_60 : decode cX6_digestSection 60 = .ok (.lstore 4, 2) := by decide +kernel
theorem dX6_digestSection_62 : decode cX6_digestSection 62 = .ok (.iinc 6 1, 3) := by decide +kernel
theorem dX6_digestSection_65 : decode cX6_digestSection 65 = .ok (.goto (-26), 3) := by decide +kernel
theorem dX6_digestSection_68 : decode cX6_digestSection 68 = .ok (.lload 4, 2) := by decide +kernel
theorem dX6_digestSection_70 : decode cX6_digestSection 70 = .ok (.ldc2_w 380, 3) := by decide +kernel
theorem dX6_digestSection_73 : decode cX6_digestSection 73 = .ok (.lmul, 1) := by decide +kernel
theorem dX6_digestSection_74 : decode cX6_digestSection 74 = .ok (.aload_n 0, 1) := by decide +kernel
theorem dX6_digestSection_75 : decode cX6_digestSection 75 = .ok (.iload_n 3, 1) := by decide +kernel
theorem dX6_digestSection_76 : decode cX6_digestSection 76 = .ok (.iconst 0, 1) := by decide +kernel
theorem dX6_digestSection_77 : decode cX6_digestSection 77 = .ok (.invokevirtual 405, 3) := by decide +kernel
theorem dX6_digestSection_80 : decode cX6_digestSection 80 = .ok (.i2l, 1) := by decide +kernel
theorem dX6_digestSection_81 : decode cX6_digestSection 81 = .ok (.ladd, 1) := by decide +kernel
theorem dX6_digestSection_82 : decode cX6_digestSection 82 = .ok (.lstore 4, 2) := by decide +kernel
theorem dX6_digestSection_84 : decode cX6_digestSection 84 = .ok (.lload 4, 2) := by decide +kernel
theorem dX6_digestSection_86 : decode cX6_digestSection 86 = .ok (.ldc2_w 380, 3) := by decide +kernel
theorem dX6_digestSection_89 : decode cX6_digestSection 89 = .ok (.lmul, 1) := by decide +kernel
theorem dX6_digestSection_90 : decode cX6_digestSection 90 = .ok (.aload_n 0, 1) := by decide +kernel
theorem dX6_digestSection_91 : decode cX6_digestSection 91 = .ok (.iload_n 3, 1) := by decide +kernel
theorem dX6_digestSection_92 : decode cX6_digestSection 92 = .ok (.iconst 1, 1) := by decide +kernel
theorem dX6_digestSection_93 : decode cX6_digestSection 93 = .ok (.invokevirtual 405, 3) := by decide +kernel
theorem dX6_digestSection_96 : decode cX6_digestSection 96 = .ok (.i2l, 1) := by decide +kernel
theorem dX6_digestSection_97 : decode cX6_digestSection 97 = .ok (.ladd, 1) := by decide +kernel
theorem dX6_digestSection_98 : decode cX6_digestSection 98 = .ok (.lstore 4, 2) := by decide +kernel
theorem dX6_digestSection_100 : decode cX6_digestSection 100 = .ok (.lload 4, 2) := by decide +kernel
theorem dX6_digestSection_102 : decode cX6_digestSection 102 = .ok (.ldc2_w 380, 3) := by decide +kernel
theorem dX6_digestSection_105 : decode cX6_digestSection 105 = .ok (.lmul, 1) := by decide +kernel
theorem dX6_digestSection_106 : decode cX6_digestSection 106 = .ok (.aload_n 0, 1) := by decide +kernel
theorem dX6_digestSection_107 : decode cX6_digestSection 107 = .ok (.iload_n 3, 1) := by decide +kernel
theorem dX6_digestSection_108 : decode cX6_digestSection 108 = .ok (.invokevirtual 409, 3) := by decide +kernel
theorem dX6_digestSection_111 : decode cX6_digestSection 111 = .ok (.i2l, 1) := by decide +kernel
theorem dX6_digestSection_112 : decode cX6_digestSection 112 = .ok (.ladd, 1) := by decide +kernel
theorem dX6_digestSection_113 : decode cX6_digestSection 113 = .ok (.lstore 4, 2) := by decide +kernel
theorem dX6_digestSection_115 : decode cX6_digestSection 115 = .ok (.lload 4, 2) := by decide +kernel
theorem dX6_digestSection_117 : decode cX6_digestSection 117 = .ok (.ldc2_w 380, 3) := by decide +kernel
theorem dX6_digestSection_120 : decode cX6_digestSection 120 = .ok (.lmul, 1) := by decide +kernel
theorem dX6_digestSection_121 : decode cX6_digestSection 121 = .ok (.aload_n 0, 1) := by decide +kernel
theorem dX6_digestSection_122 : decode cX6_digestSection 122 = .ok (.iload_n 3, 1) := by decide +kernel
theorem dX6_digestSection_123 : decode cX6_digestSection 123 = .ok (.bipush 20, 2) := by decide +kernel
theorem dX6_digestSection_125 : decode cX6_digestSection 125 = .ok (.invokevirtual 412, 3) := by decide +kernel
theorem dX6_digestSection_128 : decode cX6_digestSection 128 = .ok (.i2l, 1) := by decide +kernel
theorem dX6_digestSection_129 : decode cX6_digestSection 129 = .ok (.ladd, 1) := by decide +kernel
theorem dX6_digestSection_130 : decode cX6_digestSection 130 = .ok (.lstore 4, 2) := by decide +kernel
theorem dX6_digestSection_132 : decode cX6_digestSection 132 = .ok (.lload 4, 2) := by decide +kernel
theorem dX6_digestSection_134 : decode cX6_digestSection 134 = .ok (.ldc2_w 380, 3) := by decide +kernel
theorem dX6_digestSection_137 : decode cX6_digestSection 137 = .ok (.lmul, 1) := by decide +kernel
theorem dX6_digestSection_138 : decode cX6_digestSection 138 = .ok (.aload_n 0, 1) := by decide +kernel
theorem dX6_digestSection_139 : decode cX6_digestSection 139 = .ok (.iload_n 3, 1) := by decide +kernel
theorem dX6_digestSection_140 : decode cX6_digestSection 140 = .ok (.bipush 20, 2) := by decide +kernel
theorem dX6_digestSection_142 : decode cX6_digestSection 142 = .ok (.bipush 30, 2) := by decide +kernel
theorem dX6_digestSection_144 : decode cX6_digestSection 144 = .ok (.invokevirtual 415, 3) := by decide +kernel
theorem dX6_digestSection_147 : decode cX6_digestSection 147 = .ok (.i2l, 1) := by decide +kernel
theorem dX6_digestSection_148 : decode cX6_digestSection 148 = .ok (.ladd, 1) := by decide +kernel
theorem dX6_digestSection_149 : decode cX6_digestSection 149 = .ok (.lreturn, 1) := by decide +kernel
theorem dX6_checkSection_0 : decode cX6_checkSection 0 = .ok (.iload_n 1, 1) := by decide +kernel
theorem dX6_checkSection_1 : decode cX6_checkSection 1 = .ok (.ifCond .lt 9, 3) := by decide +kernel
theorem dX6_checkSection_4 : decode cX6_checkSection 4 = .ok (.iload_n 1, 1) := by decide +kernel
theorem dX6_checkSection_5 : decode cX6_checkSection 5 = .ok (.bipush 20, 2) := by decide +kernel
theorem dX6_checkSection_7 : decode cX6_checkSection 7 = .ok (.if_icmp .lt 14, 3) := by decide +kernel
theorem dX6_checkSection_10 : decode cX6_checkSection 10 = .ok (.new 125, 3) := by decide +kernel
theorem dX6_checkSection_13 : decode cX6_checkSection 13 = .ok (.dup, 1) := by decide +kernel
theorem dX6_checkSection_14 : decode cX6_checkSection 14 = .ok (.ldc_w 418, 3) := by decide +kernel
theorem dX6_checkSection_17 : decode cX6_checkSection 17 = .ok (.invokespecial 129, 3) := by decide +kernel
theorem dX6_checkSection_20 : decode cX6_checkSection 20 = .ok (.athrow, 1) := by decide +kernel
theorem dX6_checkSection_21 : decode cX6_checkSection 21 = .ok (.return_, 1) := by decide +kernel
theorem dX6_sectionAt_0 : decode cX6_sectionAt 0 = .ok (.aload_n 0, 1) := by decide +kernel
theorem dX6_sectionAt_1 : decode cX6_sectionAt 1 = .ok (.iload_n 1, 1) := by decide +kernel
theorem dX6_sectionAt_2 : decode cX6_sectionAt 2 = .ok (.invokevirtual 340, 3) := by decide +kernel
theorem dX6_sectionAt_5 : decode cX6_sectionAt 5 = .ok (.aload_n 0, 1) := by decide +kernel
theorem dX6_sectionAt_6 : decode cX6_sectionAt 6 = .ok (.getfield 11, 3) := by decide +kernel
theorem dX6_sectionAt_9 : decode cX6_sectionAt 9 = .ok (.iload_n 1, 1) := by decide +kernel
theorem dX6_sectionAt_10 : decode cX6_sectionAt 10 = .ok (.aaload, 1) := by decide +kernel
theorem dX6_sectionAt_11 : decode cX6_sectionAt 11 = .ok (.areturn, 1) := by decide +kernel
theorem dX6_machineAt_0 : decode cX6_machineAt 0 = .ok (.iload_n 1, 1) := by decide +kernel
theorem dX6_machineAt_1 : decode cX6_machineAt 1 = .ok (.ifCond .lt 14, 3) := by decide +kernel
theorem dX6_machineAt_4 : decode cX6_machineAt 4 = .ok (.iload_n 1, 1) := by decide +kernel
theorem dX6_machineAt_5 : decode cX6_machineAt 5 = .ok (.aload_n 0, 1) := by decide +kernel
theorem dX6_machineAt_6 : decode cX6_machineAt 6 = .ok (.getfield 22, 3) := by decide +kernel
theorem dX6_machineAt_9 : decode cX6_machineAt 9 = .ok (.invokevirtual 104, 3) := by decide +kernel
theorem dX6_machineAt_12 : decode cX6_machineAt 12 = .ok (.if_icmp .lt 14, 3) := by decide +kernel
theorem dX6_machineAt_15 : decode cX6_machineAt 15 = .ok (.new 125, 3) := by decide +kernel
theorem dX6_machineAt_18 : decode cX6_machineAt 18 = .ok (.dup, 1) := by decide +kernel
theorem dX6_machineAt_19 : decode cX6_machineAt 19 = .ok (.ldc_w 420, 3) := by decide +kernel
theorem dX6_machineAt_22 : decode cX6_machineAt 22 = .ok (.invokespecial 129, 3) := by decide +kernel
theorem dX6_machineAt_25 : decode cX6_machineAt 25 = .ok (.athrow, 1) := by decide +kernel
theorem dX6_machineAt_26 : decode cX6_machineAt 26 = .ok (.aload_n 0, 1) := by decide +kernel
theorem dX6_machineAt_27 : decode cX6_machineAt 27 = .ok (.getfield 22, 3) := by decide +kernel
theorem dX6_machineAt_30 : decode cX6_machineAt 30 = .ok (.iload_n 1, 1) := by decide +kernel
theorem dX6_machineAt_31 : decode cX6_machineAt 31 = .ok (.invokevirtual 130, 3) := by decide +kernel
theorem dX6_machineAt_34 : decode cX6_machineAt 34 = .ok (.checkcast 148, 3) := by decide +kernel
theorem dX6_machineAt_37 : decode cX6_machineAt 37 = .ok (.areturn, 1) := by decide +kernel
theorem dX6_possessionAt_0 : decode cX6_possessionAt 0 = .ok (.iload_n 1, 1) := by decide +kernel
theorem dX6_possessionAt_1 : decode cX6_possessionAt 1 = .ok (.ifCond .lt 14, 3) := by decide +kernel
theorem dX6_possessionAt_4 : decode cX6_possessionAt 4 = .ok (.iload_n 1, 1) := by decide +kernel
theorem dX6_possessionAt_5 : decode cX6_possessionAt 5 = .ok (.aload_n 0, 1) := by decide +kernel
theorem dX6_possessionAt_6 : decode cX6_possessionAt 6 = .ok (.getfield 25, 3) := by decide +kernel
theorem dX6_possessionAt_9 : decode cX6_possessionAt 9 = .ok (.invokevirtual 104, 3) := by decide +kernel
theorem dX6_possessionAt_12 : decode cX6_possessionAt 12 = .ok (.if_icmp .lt 14, 3) := by decide +kernel
theorem dX6_possessionAt_15 : decode cX6_possessionAt 15 = .ok (.new 125, 3) := by decide +kernel
theorem dX6_possessionAt_18 : decode cX6_possessionAt 18 = .ok (.dup, 1) := by decide +kernel
theorem dX6_possessionAt_19 : decode cX6_possessionAt 19 = .ok (.ldc_w 422, 3) := by decide +kernel
theorem dX6_possessionAt_22 : decode cX6_possessionAt 22 = .ok (.invokespecial 129, 3) := by decide +kernel
theorem dX6_possessionAt_25 : decode cX6_possessionAt 25 = .ok (.athrow, 1) := by decide +kernel
theorem dX6_possessionAt_26 : decode cX6_possessionAt 26 = .ok (.aload_n 0, 1) := by decide +kernel
theorem dX6_possessionAt_27 : decode cX6_possessionAt 27 = .ok (.getfield 25, 3) := by decide +kernel
theorem dX6_possessionAt_30 : decode cX6_possessionAt 30 = .ok (.iload_n 1, 1) := by decide +kernel
theorem dX6_possessionAt_31 : decode cX6_possessionAt 31 = .ok (.invokevirtual 130, 3) := by decide +kernel
theorem dX6_possessionAt_34 : decode cX6_possessionAt 34 = .ok (.checkcast 176, 3) := by decide +kernel
theorem dX6_possessionAt_37 : decode cX6_possessionAt 37 = .ok (.areturn, 1) := by decide +kernel
theorem dX6_checkStretch_0 : decode cX6_checkStretch 0 = .ok (.iload_n 1, 1) := by decide +kernel
theorem dX6_checkStretch_1 : decode cX6_checkStretch 1 = .ok (.ifCond .lt 8, 3) := by decide +kernel
theorem dX6_checkStretch_4 : decode cX6_checkStretch 4 = .ok (.iload_n 1, 1) := by decide +kernel
theorem dX6_checkStretch_5 : decode cX6_checkStretch 5 = .ok (.iconst 2, 1) := by decide +kernel
theorem dX6_checkStretch_6 : decode cX6_checkStretch 6 = .ok (.if_icmp .lt 14, 3) := by decide +kernel
theorem dX6_checkStretch_9 : decode cX6_checkStretch 9 = .ok (.new 125, 3) := by decide +kernel
theorem dX6_checkStretch_12 : decode cX6_checkStretch 12 = .ok (.dup, 1) := by decide +kernel
theorem dX6_checkStretch_13 : decode cX6_checkStretch 13 = .ok (.ldc_w 336, 3) := by decide +kernel
theorem dX6_checkStretch_16 : decode cX6_checkStretch 16 = .ok (.invokespecial 129, 3) := by decide +kernel
theorem dX6_checkStretch_19 : decode cX6_checkStretch 19 = .ok (.athrow, 1) := by decide +kernel
theorem dX6_checkStretch_20 : decode cX6_checkStretch 20 = .ok (.iload_n 2, 1) := by decide +kernel
theorem dX6_checkStretch_21 : decode cX6_checkStretch 21 = .ok (.ifCond .lt 19, 3) := by decide +kernel
theorem dX6_checkStretch_24 : decode cX6_checkStretch 24 = .ok (.iload_n 2, 1) := by decide +kernel
theorem dX6_checkStretch_25 : decode cX6_checkStretch 25 = .ok (.bipush 10, 2) := by decide +kernel
theorem dX6_checkStretch_27 : decode cX6_checkStretch 27 = .ok (.if_icmp .ge 13, 3) := by decide +kernel
theorem dX6_checkStretch_30 : decode cX6_checkStretch 30 = .ok (.iload_n 3, 1) := by decide +kernel
theorem dX6_checkStretch_31 : decode cX6_checkStretch 31 = .ok (.ifCond .lt 9, 3) := by decide +kernel
theorem dX6_checkStretch_34 : decode cX6_checkStretch 34 = .ok (.iload_n 3, 1) := by decide +kernel
theorem dX6_checkStretch_35 : decode cX6_checkStretch 35 = .ok (.bipush 10, 2) := by decide +kernel
theorem dX6_checkStretch_37 : decode cX6_checkStretch 37 = .ok (.if_icmp .lt 14, 3) := by decide +kernel
theorem dX6_checkStretch_40 : decode cX6_checkStretch 40 = .ok (.new 125, 3) := by decide +kernel
theorem dX6_checkStretch_43 : decode cX6_checkStretch 43 = .ok (.dup, 1) := by decide +kernel
theorem dX6_checkStretch_44 : decode cX6_checkStretch 44 = .ok (.ldc_w 424, 3) := by decide +kernel
theorem dX6_checkStretch_47 : decode cX6_checkStretch 47 = .ok (.invokespecial 129, 3) := by decide +kernel
theorem dX6_checkStretch_50 : decode cX6_checkStretch 50 = .ok (.athrow, 1) := by decide +kernel
theorem dX6_checkStretch_51 : decode cX6_checkStretch 51 = .ok (.iload_n 3, 1) := by decide +kernel
theorem dX6_checkStretch_52 : decode cX6_checkStretch 52 = .ok (.iload_n 2, 1) := by decide +kernel
theorem dX6_checkStretch_53 : decode cX6_checkStretch 53 = .ok (.if_icmp .ge 14, 3) := by decide +kernel
theorem dX6_checkStretch_56 : decode cX6_checkStretch 56 = .ok (.new 72, 3) := by decide +kernel
theorem dX6_checkStretch_59 : decode cX6_checkStretch 59 = .ok (.dup, 1) := by decide +kernel
theorem dX6_checkStretch_60 : decode cX6_checkStretch 60 = .ok (.ldc_w 426, 3) := by decide +kernel
theorem dX6_checkStretch_63 : decode cX6_checkStretch 63 = .ok (.invokespecial 76, 3) := by decide +kernel
theorem dX6_checkStretch_66 : decode cX6_checkStretch 66 = .ok (.athrow, 1) := by decide +kernel
theorem dX6_checkStretch_67 : decode cX6_checkStretch 67 = .ok (.return_, 1) := by decide +kernel
theorem dX6_checkTrains_0 : decode cX6_checkTrains 0 = .ok (.iload_n 1, 1) := by decide +kernel
theorem dX6_checkTrains_1 : decode cX6_checkTrains 1 = .ok (.ifCond .lt 9, 3) := by decide +kernel
theorem dX6_checkTrains_4 : decode cX6_checkTrains 4 = .ok (.iload_n 1, 1) := by decide +kernel
theorem dX6_checkTrains_5 : decode cX6_checkTrains 5 = .ok (.bipush 40, 2) := by decide +kernel
theorem dX6_checkTrains_7 : decode cX6_checkTrains 7 = .ok (.if_icmp .le 14, 3) := by decide +kernel
theorem dX6_checkTrains_10 : decode cX6_checkTrains 10 = .ok (.new 72, 3) := by decide +kernel
theorem dX6_checkTrains_13 : decode cX6_checkTrains 13 = .ok (.dup, 1) := by decide +kernel
theorem dX6_checkTrains_14 : decode cX6_checkTrains 14 = .ok (.ldc_w 428, 3) := by decide +kernel
theorem dX6_checkTrains_17 : decode cX6_checkTrains 17 = .ok (.invokespecial 76, 3) := by decide +kernel
theorem dX6_checkTrains_20 : decode cX6_checkTrains 20 = .ok (.athrow, 1) := by decide +kernel
theorem dX6_checkTrains_21 : decode cX6_checkTrains 21 = .ok (.return_, 1) := by decide +kernel
theorem dX6_passDay_0 : decode cX6_passDay 0 = .ok (.aload_n 0, 1) := by decide +kernel
theorem dX6_passDay_1 : decode cX6_passDay 1 = .ok (.aload_n 0, 1) := by decide +kernel
theorem dX6_passDay_2 : decode cX6_passDay 2 = .ok (.getfield 42, 3) := by decide +kernel
theorem dX6_passDay_5 : decode cX6_passDay 5 = .ok (.invokevirtual 430, 3) := by decide +kernel
theorem dX6_passDay_8 : decode cX6_passDay 8 = .ok (.aload_n 0, 1) := by decide +kernel
theorem dX6_passDay_9 : decode cX6_passDay 9 = .ok (.dup, 1) := by decide +kernel
theorem dX6_passDay_10 : decode cX6_passDay 10 = .ok (.getfield 42, 3) := by decide +kernel
theorem dX6_passDay_13 : decode cX6_passDay 13 = .ok (.iconst 1, 1) := by decide +kernel
theorem dX6_passDay_14 : decode cX6_passDay 14 = .ok (.iadd, 1) := by decide +kernel
theorem dX6_passDay_15 : decode cX6_passDay 15 = .ok (.putfield 42, 3) := by decide +kernel
theorem dX6_passDay_18 : decode cX6_passDay 18 = .ok (.aload_n 0, 1) := by decide +kernel
theorem dX6_passDay_19 : decode cX6_passDay 19 = .ok (.iload_n 2, 1) := by decide +kernel
theorem dX6_passDay_20 : decode cX6_passDay 20 = .ok (.putfield 46, 3) := by decide +kernel
theorem dX6_passDay_23 : decode cX6_passDay 23 = .ok (.iconst 0, 1) := by decide +kernel
theorem dX6_passDay_24 : decode cX6_passDay 24 = .ok (.istore_n 3, 1) := by decide +kernel
theorem dX6_passDay_25 : decode cX6_passDay 25 = .ok (.iload_n 3, 1) := by decide +kernel
theorem dX6_passDay_26 : decode cX6_passDay 26 = .ok (.bipush 20, 2) := by decide +kernel
theorem dX6_passDay_28 : decode cX6_passDay 28 = .ok (.if_icmp .ge 77, 3) := by decide +kernel
theorem dX6_passDay_31 : decode cX6_passDay 31 = .ok (.aload_n 0, 1) := by decide +kernel
theorem dX6_passDay_32 : decode cX6_passDay 32 = .ok (.getfield 11, 3) := by decide +kernel
theorem dX6_passDay_35 : decode cX6_passDay 35 = .ok (.iload_n 3, 1) := by decide +kernel
theorem dX6_passDay_36 : decode cX6_passDay 36 = .ok (.aaload, 1) := by decide +kernel
theorem dX6_passDay_37 : decode cX6_passDay 37 = .ok (.iload_n 1, 1) := by decide +kernel
theorem dX6_passDay_38 : decode cX6_passDay 38 = .ok (.invokevirtual 353, 3) := by decide +kernel
theorem dX6_passDay_41 : decode cX6_passDay 41 = .ok (.aload_n 0, 1) := by decide +kernel
theorem dX6_passDay_42 : decode cX6_passDay 42 = .ok (.dup, 1) := by decide +kernel
theorem dX6_passDay_43 : decode cX6_passDay 43 = .ok (.getfield 49, 3) := by decide +kernel
theorem dX6_passDay_46 : decode cX6_passDay 46 = .ok (.iload_n 1, 1) := by decide +kernel
theorem dX6_passDay_47 : decode cX6_passDay 47 = .ok (.aload_n 0, 1) := by decide +kernel
theorem dX6_passDay_48 : decode cX6_passDay 48 = .ok (.getfield 11, 3) := by decide +kernel
theorem dX6_passDay_51 : decode cX6_passDay 51 = .ok (.iload_n 3, 1) := by decide +kernel
theorem dX6_passDay_52 : decode cX6_passDay 52 = .ok (.aaload, 1) := by decide +kernel
theorem dX6_passDay_53 : decode cX6_passDay 53 = .ok (.getfield 79, 3) := by decide +kernel
theorem dX6_passDay_56 : decode cX6_passDay 56 = .ok (.invokestatic 433, 3) := by decide +kernel
theorem dX6_passDay_59 : decode cX6_passDay 59 = .ok (.iadd, 1) := by decide +kernel
theorem dX6_passDay_60 : decode cX6_passDay 60 = .ok (.putfield 49, 3) := by decide +kernel
theorem dX6_passDay_63 : decode cX6_passDay 63 = .ok (.aload_n 0, 1) := by decide +kernel
theorem dX6_passDay_64 : decode cX6_passDay 64 = .ok (.aload_n 0, 1) := by decide +kernel
theorem dX6_passDay_65 : decode cX6_passDay 65 = .ok (.getfield 11, 3) := by decide +kernel
theorem dX6_passDay_68 : decode cX6_passDay 68 = .ok (.iload_n 3, 1) := by decide +kernel
theorem dX6_passDay_69 : decode cX6_passDay 69 = .ok (.aaload, 1) := by decide +kernel
theorem dX6_passDay_70 : decode cX6_passDay 70 = .ok (.invokevirtual 436, 3) := by decide +kernel
theorem dX6_passDay_73 : decode cX6_passDay 73 = .ok (.aload_n 0, 1) := by decide +kernel
theorem dX6_passDay_74 : decode cX6_passDay 74 = .ok (.getfield 11, 3) := by decide +kernel
theorem dX6_passDay_77 : decode cX6_passDay 77 = .ok (.iload_n 3, 1) := by decide +kernel
theorem dX6_passDay_78 : decode cX6_passDay 78 = .ok (.aaload, 1) := by decide +kernel
theorem dX6_passDay_79 : decode cX6_passDay 79 = .ok (.aload_n 0, 1) := by decide +kernel
theorem dX6_passDay_80 : decode cX6_passDay 80 = .ok (.getfield 46, 3) := by decide +kernel
theorem dX6_passDay_83 : decode cX6_passDay 83 = .ok (.invokevirtual 350, 3) := by decide +kernel
theorem dX6_passDay_86 : decode cX6_passDay 86 = .ok (.ifCond .eq 13, 3) := by decide +kernel
theorem dX6_passDay_89 : decode cX6_passDay 89 = .ok (.aload_n 0, 1) := by decide +kernel
theorem dX6_passDay_90 : decode cX6_passDay 90 = .ok (.dup, 1) := by decide +kernel
theorem dX6_passDay_91 : decode cX6_passDay 91 = .ok (.getfield 52, 3) := by decide +kernel
theorem dX6_passDay_94 : decode cX6_passDay 94 = .ok (.iconst 1, 1) := by decide +kernel
theorem dX6_passDay_95 : decode cX6_passDay 95 = .ok (.iadd, 1) := by decide +kernel
theorem dX6_passDay_96 : decode cX6_passDay 96 = .ok (.putfield 52, 3) := by decide +kernel
theorem dX6_passDay_99 : decode cX6_passDay 99 = .ok (.iinc 3 1, 3) := by decide +kernel
theorem dX6_passDay_102 : decode cX6_passDay 102 = .ok (.goto (-77), 3) := by decide +kernel
theorem dX6_passDay_105 : decode cX6_passDay 105 = .ok (.return_, 1) := by decide +kernel
theorem dX6_endNightsOf_0 : decode cX6_endNightsOf 0 = .ok (.iconst 0, 1) := by decide +kernel
theorem dX6_endNightsOf_1 : decode cX6_endNightsOf 1 = .ok (.istore_n 2, 1) := by decide +kernel
theorem dX6_endNightsOf_2 : decode cX6_endNightsOf 2 = .ok (.iload_n 2, 1) := by decide +kernel
theorem dX6_endNightsOf_3 : decode cX6_endNightsOf 3 = .ok (.aload_n 0, 1) := by decide +kernel
theorem dX6_endNightsOf_4 : decode cX6_endNightsOf 4 = .ok (.getfield 25, 3) := by decide +kernel
theorem dX6_endNightsOf_7 : decode cX6_endNightsOf 7 = .ok (.invokevirtual 104, 3) := by decide +kernel
theorem dX6_endNightsOf_10 : decode cX6_endNightsOf 10 = .ok (.if_icmp .ge 66, 3) := by decide +kernel
theorem dX6_endNightsOf_13 : decode cX6_endNightsOf 13 = .ok (.aload_n 0, 1) := by decide +kernel
theorem dX6_endNightsOf_14 : decode cX6_endNightsOf 14 = .ok (.getfield 25, 3) := by decide +kernel
theorem dX6_endNightsOf_17 : decode cX6_endNightsOf 17 = .ok (.iload_n 2, 1) := by decide +kernel
theorem dX6_endNightsOf_18 : decode cX6_endNightsOf 18 = .ok (.invokevirtual 130, 3) := by decide +kernel
theorem dX6_endNightsOf_21 : decode cX6_endNightsOf 21 = .ok (.checkcast 176, 3) := by decide +kernel
theorem dX6_endNightsOf_24 : decode cX6_endNightsOf 24 = .ok (.astore_n 3, 1) := by decide +kernel
theorem dX6_endNightsOf_25 : decode cX6_endNightsOf 25 = .ok (.aload_n 3, 1) := by decide +kernel
theorem dX6_endNightsOf_26 : decode cX6_endNightsOf 26 = .ok (.getfield 227, 3) := by decide +kernel
theorem dX6_endNightsOf_29 : decode cX6_endNightsOf 29 = .ok (.iload_n 1, 1) := by decide +kernel
theorem dX6_endNightsOf_30 : decode cX6_endNightsOf 30 = .ok (.if_icmp .ne 18, 3) := by decide +kernel
theorem dX6_endNightsOf_33 : decode cX6_endNightsOf 33 = .ok (.aload_n 3, 1) := by decide +kernel
theorem dX6_endNightsOf_34 : decode cX6_endNightsOf 34 = .ok (.getfield 191, 3) := by decide +kernel
theorem dX6_endNightsOf_37 : decode cX6_endNightsOf 37 = .ok (.ifCond .ne 11, 3) := by decide +kernel
theorem dX6_endNightsOf_40 : decode cX6_endNightsOf 40 = .ok (.aload_n 3, 1) := by decide +kernel
theorem dX6_endNightsOf_41 : decode cX6_endNightsOf 41 = .ok (.iconst 3, 1) := by decide +kernel
theorem dX6_endNightsOf_42 : decode cX6_endNightsOf 42 = .ok (.putfield 191, 3) := by decide +kernel
theorem dX6_endNightsOf_45 : decode cX6_endNightsOf 45 = .ok (.goto 25, 3) := by decide +kernel
theorem dX6_endNightsOf_48 : decode cX6_endNightsOf 48 = .ok (.aload_n 3, 1) := by decide +kernel
theorem dX6_endNightsOf_49 : decode cX6_endNightsOf 49 = .ok (.getfield 227, 3) := by decide +kernel
theorem dX6_endNightsOf_52 : decode cX6_endNightsOf 52 = .ok (.iload_n 1, 1) := by decide +kernel
theorem dX6_endNightsOf_53 : decode cX6_endNightsOf 53 = .ok (.if_icmp .ne 17, 3) := by decide +kernel
theorem dX6_endNightsOf_56 : decode cX6_endNightsOf 56 = .ok (.aload_n 3, 1) := by decide +kernel
theorem dX6_endNightsOf_57 : decode cX6_endNightsOf 57 = .ok (.getfield 191, 3) := by decide +kernel
theorem dX6_endNightsOf_60 : decode cX6_endNightsOf 60 = .ok (.iconst 1, 1) := by decide +kernel
theorem dX6_endNightsOf_61 : decode cX6_endNightsOf 61 = .ok (.if_icmp .ne 9, 3) := by decide +kernel
theorem dX6_endNightsOf_64 : decode cX6_endNightsOf 64 = .ok (.aload_n 0, 1) := by decide +kernel
theorem dX6_endNightsOf_65 : decode cX6_endNightsOf 65 = .ok (.aload_n 3, 1) := by decide +kernel
theorem dX6_endNightsOf_66 : decode cX6_endNightsOf 66 = .ok (.iconst 2, 1) := by decide +kernel
theorem dX6_endNightsOf_67 : decode cX6_endNightsOf 67 = .ok (.invokevirtual 255, 3) := by decide +kernel
theorem dX6_endNightsOf_70 : decode cX6_endNightsOf 70 = .ok (.iinc 2 1, 3) := by decide +kernel
theorem dX6_endNightsOf_73 : decode cX6_endNightsOf 73 = .ok (.goto (-71), 3) := by decide +kernel
theorem dX6_endNightsOf_76 : decode cX6_endNightsOf 76 = .ok (.return_, 1) := by decide +kernel
theorem dX6_breakIfCracked_0 : decode cX6_breakIfCracked 0 = .ok (.aload_n 1, 1) := by decide +kernel
theorem dX6_breakIfCracked_1 : decode cX6_breakIfCracked 1 = .ok (.getfield 114, 3) := by decide +kernel
theorem dX6_breakIfCracked_4 : decode cX6_breakIfCracked 4 = .ok (.getfield 277, 3) := by decide +kernel
theorem dX6_breakIfCracked_7 : decode cX6_breakIfCracked 7 = .ok (.bipush 60, 2) := by decide +kernel
theorem dX6_breakIfCracked_9 : decode cX6_breakIfCracked 9 = .ok (.if_icmp .lt 25, 3) := by decide +kernel
theorem dX6_breakIfCracked_12 : decode cX6_breakIfCracked 12 = .ok (.aload_n 1, 1) := by decide +kernel
theorem dX6_breakIfCracked_13 : decode cX6_breakIfCracked 13 = .ok (.getfield 79, 3) := by decide +kernel
theorem dX6_breakIfCracked_16 : decode cX6_breakIfCracked 16 = .ok (.ifCond .le 18, 3) := by decide +kernel
theorem dX6_breakIfCracked_19 : decode cX6_breakIfCracked 19 = .ok (.aload_n 1, 1) := by decide +kernel
theorem dX6_breakIfCracked_20 : decode cX6_breakIfCracked 20 = .ok (.iconst 0, 1) := by decide +kernel
theorem dX6_breakIfCracked_21 : decode cX6_breakIfCracked 21 = .ok (.putfield 79, 3) := by decide +kernel
theorem dX6_breakIfCracked_24 : decode cX6_breakIfCracked 24 = .ok (.aload_n 0, 1) := by decide +kernel
theorem dX6_breakIfCracked_25 : decode cX6_breakIfCracked 25 = .ok (.dup, 1) := by decide +kernel
theorem dX6_breakIfCracked_26 : decode cX6_breakIfCracked 26 = .ok (.getfield 55, 3) := by decide +kernel
theorem dX6_breakIfCracked_29 : decode cX6_breakIfCracked 29 = .ok (.iconst 1, 1) := by decide +kernel
theorem dX6_breakIfCracked_30 : decode cX6_breakIfCracked 30 = .ok (.iadd, 1) := by decide +kernel
theorem dX6_breakIfCracked_31 : decode cX6_breakIfCracked 31 = .ok (.putfield 55, 3) := by decide +kernel
theorem dX6_breakIfCracked_34 : decode cX6_breakIfCracked 34 = .ok (.return_, 1) := by decide +kernel
theorem dX6_delayCost_0 : decode cX6_delayCost 0 = .ok (.iload_n 0, 1) := by decide +kernel
theorem dX6_delayCost_1 : decode cX6_delayCost 1 = .ok (.sipush 160, 3) := by decide +kernel
theorem dX6_delayCost_4 : decode cX6_delayCost 4 = .ok (.iload_n 1, 1) := by decide +kernel
theorem dX6_delayCost_5 : decode cX6_delayCost 5 = .ok (.isub, 1) := by decide +kernel
theorem dX6_delayCost_6 : decode cX6_delayCost 6 = .ok (.imul, 1) := by decide +kernel
theorem dX6_delayCost_7 : decode cX6_delayCost 7 = .ok (.bipush 80, 2) := by decide +kernel
theorem dX6_delayCost_9 : decode cX6_delayCost 9 = .ok (.idiv, 1) := by decide +kernel
theorem dX6_delayCost_10 : decode cX6_delayCost 10 = .ok (.ireturn, 1) := by decide +kernel
theorem dX6_knowingMeasure_0 : decode cX6_knowingMeasure 0 = .ok (.aload_n 0, 1) := by decide +kernel
theorem dX6_knowingMeasure_1 : decode cX6_knowingMeasure 1 = .ok (.getfield 18, 3) := by decide +kernel
theorem dX6_knowingMeasure_4 : decode cX6_knowingMeasure 4 = .ok (.invokevirtual 104, 3) := by decide +kernel
theorem dX6_knowingMeasure_7 : decode cX6_knowingMeasure 7 = .ok (.iconst 1, 1) := by decide +kernel
theorem dX6_knowingMeasure_8 : decode cX6_knowingMeasure 8 = .ok (.isub, 1) := by decide +kernel
theorem dX6_knowingMeasure_9 : decode cX6_knowingMeasure 9 = .ok (.istore_n 2, 1) := by decide +kernel
theorem dX6_knowingMeasure_10 : decode cX6_knowingMeasure 10 = .ok (.iload_n 2, 1) := by decide +kernel
theorem dX6_knowingMeasure_11 : decode cX6_knowingMeasure 11 = .ok (.ifCond .lt 29, 3) := by decide +kernel
theorem dX6_knowingMeasure_14 : decode cX6_knowingMeasure 14 = .ok (.aload_n 0, 1) := by decide +kernel
theorem dX6_knowingMeasure_15 : decode cX6_knowingMeasure 15 = .ok (.getfield 18, 3) := by decide +kernel
theorem dX6_knowingMeasure_18 : decode cX6_knowingMeasure 18 = .ok (.iload_n 2, 1) := by decide +kernel
theorem dX6_knowingMeasure_19 : decode cX6_knowingMeasure 19 = .ok (.invokevirtual 130, 3) := by decide +kernel
theorem dX6_knowingMeasure_22 : decode cX6_knowingMeasure 22 = .ok (.checkcast 110, 3) := by decide +kernel
theorem dX6_knowingMeasure_25 : decode cX6_knowingMeasure 25 = .ok (.iload_n 1, 1) := by decide +kernel
theorem dX6_knowingMeasure_26 : decode cX6_knowingMeasure 26 = .ok (.invokevirtual 439, 3) := by decide +kernel
theorem dX6_knowingMeasure_29 : decode cX6_knowingMeasure 29 = .ok (.ifnull 5, 3) := by decide +kernel
theorem dX6_knowingMeasure_32 : decode cX6_knowingMeasure 32 = .ok (.iload_n 2, 1) := by decide +kernel
theorem dX6_knowingMeasure_33 : decode cX6_knowingMeasure 33 = .ok (.ireturn, 1) := by decide +kernel
theorem dX6_knowingMeasure_34 : decode cX6_knowingMeasure 34 = .ok (.iinc 2 (-1), 3) := by decide +kernel
theorem dX6_knowingMeasure_37 : decode cX6_knowingMeasure 37 = .ok (.goto (-27), 3) := by decide +kernel
theorem dX6_knowingMeasure_40 : decode cX6_knowingMeasure 40 = .ok (.iconst (-1), 1) := by decide +kernel
theorem dX6_knowingMeasure_41 : decode cX6_knowingMeasure 41 = .ok (.ireturn, 1) := by decide +kernel
theorem dX6_knownValues_0 : decode cX6_knownValues 0 = .ok (.aload_n 0, 1) := by decide +kernel
theorem dX6_knownValues_1 : decode cX6_knownValues 1 = .ok (.iload_n 1, 1) := by decide +kernel
theorem dX6_knownValues_2 : decode cX6_knownValues 2 = .ok (.invokevirtual 301, 3) := by decide +kernel
theorem dX6_knownValues_5 : decode cX6_knownValues 5 = .ok (.istore_n 2, 1) := by decide +kernel
theorem dX6_knownValues_6 : decode cX6_knownValues 6 = .ok (.iload_n 2, 1) := by decide +kernel
theorem dX6_knownValues_7 : decode cX6_knownValues 7 = .ok (.ifCond .lt 14, 3) := by decide +kernel
theorem dX6_knownValues_10 : decode cX6_knownValues 10 = .ok (.iload_n 2, 1) := by decide +kernel
theorem dX6_knownValues_11 : decode cX6_knownValues 11 = .ok (.aload_n 0, 1) := by decide +kernel
theorem dX6_knownValues_12 : decode cX6_knownValues 12 = .ok (.getfield 18, 3) := by decide +kernel
theorem dX6_knownValues_15 : decode cX6_knownValues 15 = .ok (.invokevirtual 104, 3) := by decide +kernel
theorem dX6_knownValues_18 : decode cX6_knownValues 18 = .ok (.if_icmp .lt 8, 3) := by decide +kernel
theorem dX6_knownValues_21 : decode cX6_knownValues 21 = .ok (.aload_n 0, 1) := by decide +kernel
theorem dX6_knownValues_22 : decode cX6_knownValues 22 = .ok (.getfield 33, 3) := by decide +kernel
theorem dX6_knownValues_25 : decode cX6_knownValues 25 = .ok (.areturn, 1) := by decide +kernel
theorem dX6_knownValues_26 : decode cX6_knownValues 26 = .ok (.aload_n 0, 1) := by decide +kernel
theorem dX6_knownValues_27 : decode cX6_knownValues 27 = .ok (.getfield 18, 3) := by decide +kernel
theorem dX6_knownValues_30 : decode cX6_knownValues 30 = .ok (.iload_n 2, 1) := by decide +kernel
theorem dX6_knownValues_31 : decode cX6_knownValues 31 = .ok (.invokevirtual 130, 3) := by decide +kernel
theorem dX6_knownValues_34 : decode cX6_knownValues 34 = .ok (.checkcast 110, 3) := by decide +kernel
theorem dX6_knownValues_37 : decode cX6_knownValues 37 = .ok (.iload_n 1, 1) := by decide +kernel
theorem dX6_knownValues_38 : decode cX6_knownValues 38 = .ok (.invokevirtual 439, 3) := by decide +kernel
theorem dX6_knownValues_41 : decode cX6_knownValues 41 = .ok (.astore_n 3, 1) := by decide +kernel
theorem dX6_knownValues_42 : decode cX6_knownValues 42 = .ok (.aload_n 3, 1) := by decide +kernel
theorem dX6_knownValues_43 : decode cX6_knownValues 43 = .ok (.ifnonnull 10, 3) := by decide +kernel
theorem dX6_knownValues_46 : decode cX6_knownValues 46 = .ok (.aload_n 0, 1) := by decide +kernel
theorem dX6_knownValues_47 : decode cX6_knownValues 47 = .ok (.getfield 33, 3) := by decide +kernel
theorem dX6_knownValues_50 : decode cX6_knownValues 50 = .ok (.goto 4, 3) := by decide +kernel
theorem dX6_knownValues_53 : decode cX6_knownValues 53 = .ok (.aload_n 3, 1) := by decide +kernel
theorem dX6_knownValues_54 : decode cX6_knownValues 54 = .ok (.areturn, 1) := by decide +kernel
theorem dX6_isOut_0 : decode cX6_isOut 0 = .ok (.iconst 0, 1) := by decide +kernel
theorem dX6_isOut_1 : decode cX6_isOut 1 = .ok (.istore_n 2, 1) := by decide +kernel
theorem dX6_isOut_2 : decode cX6_isOut 2 = .ok (.iload_n 2, 1) := by decide +kernel
theorem dX6_isOut_3 : decode cX6_isOut 3 = .ok (.aload_n 0, 1) := by decide +kernel
theorem dX6_isOut_4 : decode cX6_isOut 4 = .ok (.getfield 25, 3) := by decide +kernel
theorem dX6_isOut_7 : decode cX6_isOut 7 = .ok (.invokevirtual 104, 3) := by decide +kernel
theorem dX6_isOut_10 : decode cX6_isOut 10 = .ok (.if_icmp .ge 39, 3) := by decide +kernel
theorem dX6_isOut_13 : decode cX6_isOut 13 = .ok (.aload_n 0, 1) := by decide +kernel
theorem dX6_isOut_14 : decode cX6_isOut 14 = .ok (.getfield 25, 3) := by decide +kernel
theorem dX6_isOut_17 : decode cX6_isOut 17 = .ok (.iload_n 2, 1) := by decide +kernel
theorem dX6_isOut_18 : decode cX6_isOut 18 = .ok (.invokevirtual 130, 3) := by decide +kernel
theorem dX6_isOut_21 : decode cX6_isOut 21 = .ok (.checkcast 176, 3) := by decide +kernel
theorem dX6_isOut_24 : decode cX6_isOut 24 = .ok (.astore_n 3, 1) := by decide +kernel
theorem dX6_isOut_25 : decode cX6_isOut 25 = .ok (.aload_n 3, 1) := by decide +kernel
theorem dX6_isOut_26 : decode cX6_isOut 26 = .ok (.getfield 191, 3) := by decide +kernel
theorem dX6_isOut_29 : decode cX6_isOut 29 = .ok (.iconst 1, 1) := by decide +kernel
theorem dX6_isOut_30 : decode cX6_isOut 30 = .ok (.if_icmp .ne 13, 3) := by decide +kernel
theorem dX6_isOut_33 : decode cX6_isOut 33 = .ok (.aload_n 3, 1) := by decide +kernel
theorem dX6_isOut_34 : decode cX6_isOut 34 = .ok (.aload_n 1, 1) := by decide +kernel
theorem dX6_isOut_35 : decode cX6_isOut 35 = .ok (.invokevirtual 442, 3) := by decide +kernel
theorem dX6_isOut_38 : decode cX6_isOut 38 = .ok (.ifCond .eq 5, 3) := by decide +kernel
theorem dX6_isOut_41 : decode cX6_isOut 41 = .ok (.iconst 1, 1) := by decide +kernel
theorem dX6_isOut_42 : decode cX6_isOut 42 = .ok (.ireturn, 1) := by decide +kernel
theorem dX6_isOut_43 : decode cX6_isOut 43 = .ok (.iinc 2 1, 3) := by decide +kernel
theorem dX6_isOut_46 : decode cX6_isOut 46 = .ok (.goto (-44), 3) := by decide +kernel
theorem dX6_isOut_49 : decode cX6_isOut 49 = .ok (.iconst 0, 1) := by decide +kernel
theorem dX6_isOut_50 : decode cX6_isOut 50 = .ok (.ireturn, 1) := by decide +kernel
theorem dX6_isElsewhere_0 : decode cX6_isElsewhere 0 = .ok (.iconst 0, 1) := by decide +kernel
theorem dX6_isElsewhere_1 : decode cX6_isElsewhere 1 = .ok (.istore_n 3, 1) := by decide +kernel
theorem dX6_isElsewhere_2 : decode cX6_isElsewhere 2 = .ok (.iload_n 3, 1) := by decide +kernel
theorem dX6_isElsewhere_3 : decode cX6_isElsewhere 3 = .ok (.aload_n 0, 1) := by decide +kernel
theorem dX6_isElsewhere_4 : decode cX6_isElsewhere 4 = .ok (.getfield 25, 3) := by decide +kernel
theorem dX6_isElsewhere_7 : decode cX6_isElsewhere 7 = .ok (.invokevirtual 104, 3) := by decide +kernel
theorem dX6_isElsewhere_10 : decode cX6_isElsewhere 10 = .ok (.if_icmp .ge 59, 3) := by decide +kernel
theorem dX6_isElsewhere_13 : decode cX6_isElsewhere 13 = .ok (.aload_n 0, 1) := by decide +kernel
theorem dX6_isElsewhere_14 : decode cX6_isElsewhere 14 = .ok (.getfield 25, 3) := by decide +kernel
theorem dX6_isElsewhere_17 : decode cX6_isElsewhere 17 = .ok (.iload_n 3, 1) := by decide +kernel
theorem dX6_isElsewhere_18 : decode cX6_isElsewhere 18 = .ok (.invokevirtual 130, 3) := by decide +kernel
theorem dX6_isElsewhere_21 : decode cX6_isElsewhere 21 = .ok (.checkcast 176, 3) := by decide +kernel
theorem dX6_isElsewhere_24 : decode cX6_isElsewhere 24 = .ok (.astore 4, 2) := by decide +kernel
theorem dX6_isElsewhere_26 : decode cX6_isElsewhere 26 = .ok (.aload 4, 2) := by decide +kernel
theorem dX6_isElsewhere_28 : decode cX6_isElsewhere 28 = .ok (.aload_n 2, 1) := by decide +kernel
theorem dX6_isElsewhere_29 : decode cX6_isElsewhere 29 = .ok (.if_acmp .eq 34, 3) := by decide +kernel
theorem dX6_isElsewhere_32 : decode cX6_isElsewhere 32 = .ok (.aload 4, 2) := by decide +kernel
theorem dX6_isElsewhere_34 : decode cX6_isElsewhere 34 = .ok (.getfield 227, 3) := by decide +kernel
theorem dX6_isElsewhere_37 : decode cX6_isElsewhere 37 = .ok (.aload_n 2, 1) := by decide +kernel
theorem dX6_isElsewhere_38 : decode cX6_isElsewhere 38 = .ok (.getfield 227, 3) := by decide +kernel
theorem dX6_isElsewhere_41 : decode cX6_isElsewhere 41 = .ok (.if_icmp .ne 22, 3) := by decide +kernel
theorem dX6_isElsewhere_44 : decode cX6_isElsewhere 44 = .ok (.aload 4, 2) := by decide +kernel
theorem dX6_isElsewhere_46 : decode cX6_isElsewhere 46 = .ok (.invokevirtual 362, 3) := by decide +kernel
theorem dX6_isElsewhere_49 : decode cX6_isElsewhere 49 = .ok (.ifCond .eq 14, 3) := by decide +kernel
theorem dX6_isElsewhere_52 : decode cX6_isElsewhere 52 = .ok (.aload 4, 2) := by decide +kernel
theorem dX6_isElsewhere_54 : decode cX6_isElsewhere 54 = .ok (.aload_n 1, 1) := by decide +kernel
theorem dX6_isElsewhere_55 : decode cX6_isElsewhere 55 = .ok (.invokevirtual 442, 3) := by decide +kernel
theorem dX6_isElsewhere_58 : decode cX6_isElsewhere 58 = .ok (.ifCond .eq 5, 3) := by decide +kernel
theorem dX6_isElsewhere_61 : decode cX6_isElsewhere 61 = .ok (.iconst 1, 1) := by decide +kernel
theorem dX6_isElsewhere_62 : decode cX6_isElsewhere 62 = .ok (.ireturn, 1) := by decide +kernel
theorem dX6_isElsewhere_63 : decode cX6_isElsewhere 63 = .ok (.iinc 3 1, 3) := by decide +kernel
theorem dX6_isElsewhere_66 : decode cX6_isElsewhere 66 = .ok (.goto (-64), 3) := by decide +kernel
theorem dX6_isElsewhere_69 : decode cX6_isElsewhere 69 = .ok (.iconst 0, 1) := by decide +kernel
theorem dX6_isElsewhere_70 : decode cX6_isElsewhere 70 = .ok (.ireturn, 1) := by decide +kernel
theorem dX6_isFree_0 : decode cX6_isFree 0 = .ok (.iconst 0, 1) := by decide +kernel
theorem dX6_isFree_1 : decode cX6_isFree 1 = .ok (.istore 5, 2) := by decide +kernel
theorem dX6_isFree_3 : decode cX6_isFree 3 = .ok (.iload 5, 2) := by decide +kernel
theorem dX6_isFree_5 : decode cX6_isFree 5 = .ok (.aload_n 0, 1) := by decide +kernel
theorem dX6_isFree_6 : decode cX6_isFree 6 = .ok (.getfield 25, 3) := by decide +kernel
theorem dX6_isFree_9 : decode cX6_isFree 9 = .ok (.invokevirtual 104, 3) := by decide +kernel
theorem dX6_isFree_12 : decode cX6_isFree 12 = .ok (.if_icmp .ge 55, 3) := by decide +kernel
theorem dX6_isFree_15 : decode cX6_isFree 15 = .ok (.aload_n 0, 1) := by decide +kernel
theorem dX6_isFree_16 : decode cX6_isFree 16 = .ok (.getfield 25, 3) := by decide +kernel
theorem dX6_isFree_19 : decode cX6_isFree 19 = .ok (.iload 5, 2) := by decide +kernel
theorem dX6_isFree_21 : decode cX6_isFree 21 = .ok (.invokevirtual 130, 3) := by decide +kernel
theorem dX6_isFree_24 : decode cX6_isFree 24 = .ok (.checkcast 176, 3) := by decide +kernel
theorem dX6_isFree_27 : decode cX6_isFree 27 = .ok (.astore 6, 2) := by decide +kernel
theorem dX6_isFree_29 : decode cX6_isFree 29 = .ok (.aload 6, 2) := by decide +kernel
theorem dX6_isFree_31 : decode cX6_isFree 31 = .ok (.getfield 227, 3) := by decide +kernel
theorem dX6_isFree_34 : decode cX6_isFree 34 = .ok (.iload 4, 2) := by decide +kernel
theorem dX6_isFree_36 : decode cX6_isFree 36 = .ok (.if_icmp .ne 25, 3) := by decide +kernel
theorem dX6_isFree_39 : decode cX6_isFree 39 = .ok (.aload 6, 2) := by decide +kernel
theorem dX6_isFree_41 : decode cX6_isFree 41 = .ok (.getfield 191, 3) := by decide +kernel
theorem dX6_isFree_44 : decode cX6_isFree 44 = .ok (.iconst 4, 1) := by decide +kernel
theorem dX6_isFree_45 : decode cX6_isFree 45 = .ok (.if_icmp .eq 16, 3) := by decide +kernel
theorem dX6_isFree_48 : decode cX6_isFree 48 = .ok (.aload 6, 2) := by decide +kernel
theorem dX6_isFree_50 : decode cX6_isFree 50 = .ok (.iload_n 1, 1) := by decide +kernel
theorem dX6_isFree_51 : decode cX6_isFree 51 = .ok (.iload_n 2, 1) := by decide +kernel
theorem dX6_isFree_52 : decode cX6_isFree 52 = .ok (.iload_n 3, 1) := by decide +kernel
theorem dX6_isFree_53 : decode cX6_isFree 53 = .ok (.invokevirtual 445, 3) := by decide +kernel
theorem dX6_isFree_56 : decode cX6_isFree 56 = .ok (.ifCond .eq 5, 3) := by decide +kernel
theorem dX6_isFree_59 : decode cX6_isFree 59 = .ok (.iconst 0, 1) := by decide +kernel
theorem dX6_isFree_60 : decode cX6_isFree 60 = .ok (.ireturn, 1) := by decide +kernel
theorem dX6_isFree_61 : decode cX6_isFree 61 = .ok (.iinc 5 1, 3) := by decide +kernel
theorem dX6_isFree_64 : decode cX6_isFree 64 = .ok (.goto (-61), 3) := by decide +kernel
theorem dX6_isFree_67 : decode cX6_isFree 67 = .ok (.iconst 1, 1) := by decide +kernel
theorem dX6_isFree_68 : decode cX6_isFree 68 = .ok (.ireturn, 1) := by decide +kernel
theorem dX6_isTaken_0 : decode cX6_isTaken 0 = .ok (.iconst 0, 1) := by decide +kernel
theorem dX6_isTaken_1 : decode cX6_isTaken 1 = .ok (.istore_n 2, 1) := by decide +kernel
theorem dX6_isTaken_2 : decode cX6_isTaken 2 = .ok (.iload_n 2, 1) := by decide +kernel
theorem dX6_isTaken_3 : decode cX6_isTaken 3 = .ok (.aload_n 0, 1) := by decide +kernel
theorem dX6_isTaken_4 : decode cX6_isTaken 4 = .ok (.getfield 25, 3) := by decide +kernel
theorem dX6_isTaken_7 : decode cX6_isTaken 7 = .ok (.invokevirtual 104, 3) := by decide +kernel
theorem dX6_isTaken_10 : decode cX6_isTaken 10 = .ok (.if_icmp .ge 39, 3) := by decide +kernel
theorem dX6_isTaken_13 : decode cX6_isTaken 13 = .ok (.aload_n 0, 1) := by decide +kernel
theorem dX6_isTaken_14 : decode cX6_isTaken 14 = .ok (.getfield 25, 3) := by decide +kernel
theorem dX6_isTaken_17 : decode cX6_isTaken 17 = .ok (.iload_n 2, 1) := by decide +kernel
theorem dX6_isTaken_18 : decode cX6_isTaken 18 = .ok (.invokevirtual 130, 3) := by decide +kernel
theorem dX6_isTaken_21 : decode cX6_isTaken 21 = .ok (.checkcast 176, 3) := by decide +kernel
theorem dX6_isTaken_24 : decode cX6_isTaken 24 = .ok (.astore_n 3, 1) := by decide +kernel
theorem dX6_isTaken_25 : decode cX6_isTaken 25 = .ok (.aload_n 3, 1) := by decide +kernel
theorem dX6_isTaken_26 : decode cX6_isTaken 26 = .ok (.getfield 191, 3) := by decide +kernel
theorem dX6_isTaken_29 : decode cX6_isTaken 29 = .ok (.iconst 1, 1) := by decide +kernel
theorem dX6_isTaken_30 : decode cX6_isTaken 30 = .ok (.if_icmp .ne 13, 3) := by decide +kernel
theorem dX6_isTaken_33 : decode cX6_isTaken 33 = .ok (.aload_n 3, 1) := by decide +kernel
theorem dX6_isTaken_34 : decode cX6_isTaken 34 = .ok (.iload_n 1, 1) := by decide +kernel
theorem dX6_isTaken_35 : decode cX6_isTaken 35 = .ok (.invokevirtual 185, 3) := by decide +kernel
theorem dX6_isTaken_38 : decode cX6_isTaken 38 = .ok (.ifCond .eq 5, 3) := by decide +kernel
theorem dX6_isTaken_41 : decode cX6_isTaken 41 = .ok (.iconst 1, 1) := by decide +kernel
theorem dX6_isTaken_42 : decode cX6_isTaken 42 = .ok (.ireturn, 1) := by decide +kernel
theorem dX6_isTaken_43 : decode cX6_isTaken 43 = .ok (.iinc 2 1, 3) := by decide +kernel
theorem dX6_isTaken_46 : decode cX6_isTaken 46 = .ok (.goto (-44), 3) := by decide +kernel
theorem dX6_isTaken_49 : decode cX6_isTaken 49 = .ok (.iconst 0, 1) := by decide +kernel
theorem dX6_isTaken_50 : decode cX6_isTaken 50 = .ok (.ireturn, 1) := by decide +kernel
theorem dX6_signBeside_0 : decode cX6_signBeside 0 = .ok (.iload_n 1, 1) := by decide +kernel
theorem dX6_signBeside_1 : decode cX6_signBeside 1 = .ok (.bipush 10, 2) := by decide +kernel
theorem dX6_signBeside_3 : decode cX6_signBeside 3 = .ok (.if_icmp .ge 10, 3) := by decide +kernel
theorem dX6_signBeside_6 : decode cX6_signBeside 6 = .ok (.iload_n 1, 1) := by decide +kernel
theorem dX6_signBeside_7 : decode cX6_signBeside 7 = .ok (.bipush 10, 2) := by decide +kernel
theorem dX6_signBeside_9 : decode cX6_signBeside 9 = .ok (.iadd, 1) := by decide +kernel
theorem dX6_signBeside_10 : decode cX6_signBeside 10 = .ok (.goto 7, 3) := by decide +kernel
theorem dX6_signBeside_13 : decode cX6_signBeside 13 = .ok (.iload_n 1, 1) := by decide +kernel
theorem dX6_signBeside_14 : decode cX6_signBeside 14 = .ok (.bipush 10, 2) := by decide +kernel
theorem dX6_signBeside_16 : decode cX6_signBeside 16 = .ok (.isub, 1) := by decide +kernel
theorem dX6_signBeside_17 : decode cX6_signBeside 17 = .ok (.istore_n 2, 1) := by decide +kernel
theorem dX6_signBeside_18 : decode cX6_signBeside 18 = .ok (.aload_n 0, 1) := by decide +kernel
theorem dX6_signBeside_19 : decode cX6_signBeside 19 = .ok (.iload_n 2, 1) := by decide +kernel
theorem dX6_signBeside_20 : decode cX6_signBeside 20 = .ok (.invokevirtual 264, 3) := by decide +kernel
theorem dX6_signBeside_23 : decode cX6_signBeside 23 = .ok (.ifCond .eq 7, 3) := by decide +kernel
theorem dX6_signBeside_26 : decode cX6_signBeside 26 = .ok (.iconst 0, 1) := by decide +kernel
theorem dX6_signBeside_27 : decode cX6_signBeside 27 = .ok (.goto 11, 3) := by decide +kernel
theorem dX6_signBeside_30 : decode cX6_signBeside 30 = .ok (.aload_n 0, 1) := by decide +kernel
theorem dX6_signBeside_31 : decode cX6_signBeside 31 = .ok (.iload_n 2, 1) := by decide +kernel
theorem dX6_signBeside_32 : decode cX6_signBeside 32 = .ok (.invokevirtual 64, 3) := by decide +kernel
theorem dX6_signBeside_35 : decode cX6_signBeside 35 = .ok (.getfield 79, 3) := by decide +kernel
theorem dX6_signBeside_38 : decode cX6_signBeside 38 = .ok (.ireturn, 1) := by decide +kernel
theorem dX6_isWarned_0 : decode cX6_isWarned 0 = .ok (.iload_n 0, 1) := by decide +kernel
theorem dX6_isWarned_1 : decode cX6_isWarned 1 = .ok (.iload_n 1, 1) := by decide +kernel
theorem dX6_isWarned_2 : decode cX6_isWarned 2 = .ok (.invokestatic 372, 3) := by decide +kernel
theorem dX6_isWarned_5 : decode cX6_isWarned 5 = .ok (.istore_n 3, 1) := by decide +kernel
theorem dX6_isWarned_6 : decode cX6_isWarned 6 = .ok (.iload_n 3, 1) := by decide +kernel
theorem dX6_isWarned_7 : decode cX6_isWarned 7 = .ok (.ifCond .le 17, 3) := by decide +kernel
theorem dX6_isWarned_10 : decode cX6_isWarned 10 = .ok (.iload_n 2, 1) := by decide +kernel
theorem dX6_isWarned_11 : decode cX6_isWarned 11 = .ok (.bipush 36, 2) := by decide +kernel
theorem dX6_isWarned_13 : decode cX6_isWarned 13 = .ok (.imul, 1) := by decide +kernel
theorem dX6_isWarned_14 : decode cX6_isWarned 14 = .ok (.bipush 10, 2) := by decide +kernel
theorem dX6_isWarned_16 : decode cX6_isWarned 16 = .ok (.iload_n 3, 1) := by decide +kernel
theorem dX6_isWarned_17 : decode cX6_isWarned 17 = .ok (.imul, 1) := by decide +kernel
theorem dX6_isWarned_18 : decode cX6_isWarned 18 = .ok (.idiv, 1) := by decide +kernel
theorem dX6_isWarned_19 : decode cX6_isWarned 19 = .ok (.bipush 25, 2) := by decide +kernel
theorem dX6_isWarned_21 : decode cX6_isWarned 21 = .ok (.if_icmp .lt 7, 3) := by decide +kernel
theorem dX6_isWarned_24 : decode cX6_isWarned 24 = .ok (.iconst 1, 1) := by decide +kernel
theorem dX6_isWarned_25 : decode cX6_isWarned 25 = .ok (.goto 4, 3) := by decide +kernel
theorem dX6_isWarned_28 : decode cX6_isWarned 28 = .ok (.iconst 0, 1) := by decide +kernel
theorem dX6_isWarned_29 : decode cX6_isWarned 29 = .ok (.ireturn, 1) := by decide +kernel
theorem dX6_endNight_0 : decode cX6_endNight 0 = .ok (.aload_n 0, 1) := by decide +kernel
theorem dX6_endNight_1 : decode cX6_endNight 1 = .ok (.aload_n 1, 1) := by decide +kernel
theorem dX6_endNight_2 : decode cX6_endNight 2 = .ok (.invokevirtual 368, 3) := by decide +kernel
theorem dX6_endNight_5 : decode cX6_endNight 5 = .ok (.istore_n 3, 1) := by decide +kernel
theorem dX6_endNight_6 : decode cX6_endNight 6 = .ok (.iconst 0, 1) := by decide +kernel
theorem dX6_endNight_7 : decode cX6_endNight 7 = .ok (.istore 4, 2) := by decide +kernel
theorem dX6_endNight_9 : decode cX6_endNight 9 = .ok (.iload 4, 2) := by decide +kernel
theorem dX6_endNight_11 : decode cX6_endNight 11 = .ok (.aload_n 1, 1) := by decide +kernel
theorem dX6_endNight_12 : decode cX6_endNight 12 = .ok (.getfield 196, 3) := by decide +kernel
theorem dX6_endNight_15 : decode cX6_endNight 15 = .ok (.invokevirtual 104, 3) := by decide +kernel
theorem dX6_endNight_18 : decode cX6_endNight 18 = .ok (.if_icmp .ge 25, 3) := by decide +kernel
theorem dX6_endNight_21 : decode cX6_endNight 21 = .ok (.aload_n 0, 1) := by decide +kernel
theorem dX6_endNight_22 : decode cX6_endNight 22 = .ok (.aload_n 1, 1) := by decide +kernel
theorem dX6_endNight_23 : decode cX6_endNight 23 = .ok (.getfield 196, 3) := by decide +kernel
theorem dX6_endNight_26 : decode cX6_endNight 26 = .ok (.iload 4, 2) := by decide +kernel
theorem dX6_endNight_28 : decode cX6_endNight 28 = .ok (.invokevirtual 130, 3) := by decide +kernel
theorem dX6_endNight_31 : decode cX6_endNight 31 = .ok (.checkcast 222, 3) := by decide +kernel
theorem dX6_endNight_34 : decode cX6_endNight 34 = .ok (.invokevirtual 448, 3) := by decide +kernel
theorem dX6_endNight_37 : decode cX6_endNight 37 = .ok (.iinc 4 1, 3) := by decide +kernel
theorem dX6_endNight_40 : decode cX6_endNight 40 = .ok (.goto (-31), 3) := by decide +kernel
theorem dX6_endNight_43 : decode cX6_endNight 43 = .ok (.aload_n 1, 1) := by decide +kernel
theorem dX6_endNight_44 : decode cX6_endNight 44 = .ok (.iconst 2, 1) := by decide +kernel
theorem dX6_endNight_45 : decode cX6_endNight 45 = .ok (.putfield 191, 3) := by decide +kernel
theorem dX6_endNight_48 : decode cX6_endNight 48 = .ok (.aload_n 1, 1) := by decide +kernel
theorem dX6_endNight_49 : decode cX6_endNight 49 = .ok (.iconst 0, 1) := by decide +kernel
theorem dX6_endNight_50 : decode cX6_endNight 50 = .ok (.iload_n 3, 1) := by decide +kernel
theorem dX6_endNight_51 : decode cX6_endNight 51 = .ok (.aload_n 1, 1) := by decide +kernel
theorem dX6_endNight_52 : decode cX6_endNight 52 = .ok (.getfield 211, 3) := by decide +kernel
theorem dX6_endNight_55 : decode cX6_endNight 55 = .ok (.isub, 1) := by decide +kernel
theorem dX6_endNight_56 : decode cX6_endNight 56 = .ok (.invokestatic 372, 3) := by decide +kernel
theorem dX6_endNight_59 : decode cX6_endNight 59 = .ok (.iload_n 2, 1) := by decide +kernel
theorem dX6_endNight_60 : decode cX6_endNight 60 = .ok (.iadd, 1) := by decide +kernel
theorem dX6_endNight_61 : decode cX6_endNight 61 = .ok (.putfield 259, 3) := by decide +kernel
theorem dX6_endNight_64 : decode cX6_endNight 64 = .ok (.aload_n 0, 1) := by decide +kernel
theorem dX6_endNight_65 : decode cX6_endNight 65 = .ok (.dup, 1) := by decide +kernel
theorem dX6_endNight_66 : decode cX6_endNight 66 = .ok (.getfield 61, 3) := by decide +kernel
theorem dX6_endNight_69 : decode cX6_endNight 69 = .ok (.aload_n 1, 1) := by decide +kernel
theorem dX6_endNight_70 : decode cX6_endNight 70 = .ok (.getfield 259, 3) := by decide +kernel
theorem dX6_endNight_73 : decode cX6_endNight 73 = .ok (.iadd, 1) := by decide +kernel
theorem dX6_endNight_74 : decode cX6_endNight 74 = .ok (.putfield 61, 3) := by decide +kernel
theorem dX6_endNight_77 : decode cX6_endNight 77 = .ok (.aload_n 0, 1) := by decide +kernel
theorem dX6_endNight_78 : decode cX6_endNight 78 = .ok (.dup, 1) := by decide +kernel
theorem dX6_endNight_79 : decode cX6_endNight 79 = .ok (.getfield 49, 3) := by decide +kernel
theorem dX6_endNight_82 : decode cX6_endNight 82 = .ok (.bipush 20, 2) := by decide +kernel
theorem dX6_endNight_84 : decode cX6_endNight 84 = .ok (.aload_n 1, 1) := by decide +kernel
theorem dX6_endNight_85 : decode cX6_endNight 85 = .ok (.getfield 211, 3) := by decide +kernel
theorem dX6_endNight_88 : decode cX6_endNight 88 = .ok (.imul, 1) := by decide +kernel
theorem dX6_endNight_89 : decode cX6_endNight 89 = .ok (.iadd, 1) := by decide +kernel
theorem dX6_endNight_90 : decode cX6_endNight 90 = .ok (.putfield 49, 3) := by decide +kernel
theorem dX6_endNight_93 : decode cX6_endNight 93 = .ok (.aload_n 0, 1) := by decide +kernel
theorem dX6_endNight_94 : decode cX6_endNight 94 = .ok (.dup, 1) := by decide +kernel
theorem dX6_endNight_95 : decode cX6_endNight 95 = .ok (.getfield 49, 3) := by decide +kernel
theorem dX6_endNight_98 : decode cX6_endNight 98 = .ok (.bipush 30, 2) := by decide +kernel
theorem dX6_endNight_100 : decode cX6_endNight 100 = .ok (.iload_n 3, 1) := by decide +kernel
theorem dX6_endNight_101 : decode cX6_endNight 101 = .ok (.imul, 1) := by decide +kernel
theorem dX6_endNight_102 : decode cX6_endNight 102 = .ok (.iadd, 1) := by decide +kernel
theorem dX6_endNight_103 : decode cX6_endNight 103 = .ok (.putfield 49, 3) := by decide +kernel
theorem dX6_endNight_106 : decode cX6_endNight 106 = .ok (.aload_n 0, 1) := by decide +kernel
theorem dX6_endNight_107 : decode cX6_endNight 107 = .ok (.dup, 1) := by decide +kernel
theorem dX6_endNight_108 : decode cX6_endNight 108 = .ok (.getfield 49, 3) := by decide +kernel
theorem dX6_endNight_111 : decode cX6_endNight 111 = .ok (.bipush 100, 2) := by decide +kernel
theorem dX6_endNight_113 : decode cX6_endNight 113 = .ok (.aload_n 1, 1) := by decide +kernel
theorem dX6_endNight_114 : decode cX6_endNight 114 = .ok (.getfield 259, 3) := by decide +kernel
theorem dX6_endNight_117 : decode cX6_endNight 117 = .ok (.imul, 1) := by decide +kernel
theorem dX6_endNight_118 : decode cX6_endNight 118 = .ok (.iadd, 1) := by decide +kernel
theorem dX6_endNight_119 : decode cX6_endNight 119 = .ok (.putfield 49, 3) := by decide +kernel
theorem dX6_endNight_122 : decode cX6_endNight 122 = .ok (.return_, 1) := by decide +kernel
theorem dX6_carryOut_0 : decode cX6_carryOut 0 = .ok (.aload_n 1, 1) := by decide +kernel
theorem dX6_carryOut_1 : decode cX6_carryOut 1 = .ok (.getfield 452, 3) := by decide +kernel
theorem dX6_carryOut_4 : decode cX6_carryOut 4 = .ok (.getfield 161, 3) := by decide +kernel
theorem dX6_carryOut_7 : decode cX6_carryOut 7 = .ok (.aload_n 1, 1) := by decide +kernel
theorem dX6_carryOut_8 : decode cX6_carryOut 8 = .ok (.getfield 456, 3) := by decide +kernel
theorem dX6_carryOut_11 : decode cX6_carryOut 11 = .ok (.if_icmp .ge 25, 3) := by decide +kernel
theorem dX6_carryOut_14 : decode cX6_carryOut 14 = .ok (.aload_n 1, 1) := by decide +kernel
theorem dX6_carryOut_15 : decode cX6_carryOut 15 = .ok (.getfield 452, 3) := by decide +kernel
theorem dX6_carryOut_18 : decode cX6_carryOut 18 = .ok (.iconst 0, 1) := by decide +kernel
theorem dX6_carryOut_19 : decode cX6_carryOut 19 = .ok (.putfield 161, 3) := by decide +kernel
theorem dX6_carryOut_22 : decode cX6_carryOut 22 = .ok (.aload_n 1, 1) := by decide +kernel
theorem dX6_carryOut_23 : decode cX6_carryOut 23 = .ok (.getfield 452, 3) := by decide +kernel
theorem dX6_carryOut_26 : decode cX6_carryOut 26 = .ok (.dup, 1) := by decide +kernel
theorem dX6_carryOut_27 : decode cX6_carryOut 27 = .ok (.getfield 312, 3) := by decide +kernel
theorem dX6_carryOut_30 : decode cX6_carryOut 30 = .ok (.iconst 1, 1) := by decide +kernel
theorem dX6_carryOut_31 : decode cX6_carryOut 31 = .ok (.iadd, 1) := by decide +kernel
theorem dX6_carryOut_32 : decode cX6_carryOut 32 = .ok (.putfield 312, 3) := by decide +kernel
theorem dX6_carryOut_35 : decode cX6_carryOut 35 = .ok (.return_, 1) := by decide +kernel
theorem dX6_carryOut_36 : decode cX6_carryOut 36 = .ok (.aload_n 1, 1) := by decide +kernel
theorem dX6_carryOut_37 : decode cX6_carryOut 37 = .ok (.getfield 452, 3) := by decide +kernel
theorem dX6_carryOut_40 : decode cX6_carryOut 40 = .ok (.dup, 1) := by decide +kernel
theorem dX6_carryOut_41 : decode cX6_carryOut 41 = .ok (.getfield 161, 3) := by decide +kernel
theorem dX6_carryOut_44 : decode cX6_carryOut 44 = .ok (.aload_n 1, 1) := by decide +kernel
theorem dX6_carryOut_45 : decode cX6_carryOut 45 = .ok (.getfield 456, 3) := by decide +kernel
theorem dX6_carryOut_48 : decode cX6_carryOut 48 = .ok (.isub, 1) := by decide +kernel
theorem dX6_carryOut_49 : decode cX6_carryOut 49 = .ok (.putfield 161, 3) := by decide +kernel
theorem dX6_carryOut_52 : decode cX6_carryOut 52 = .ok (.aload_n 1, 1) := by decide +kernel
theorem dX6_carryOut_53 : decode cX6_carryOut 53 = .ok (.getfield 452, 3) := by decide +kernel
theorem dX6_carryOut_56 : decode cX6_carryOut 56 = .ok (.dup, 1) := by decide +kernel
theorem dX6_carryOut_57 : decode cX6_carryOut 57 = .ok (.getfield 309, 3) := by decide +kernel
theorem dX6_carryOut_60 : decode cX6_carryOut 60 = .ok (.iconst 1, 1) := by decide +kernel
theorem dX6_carryOut_61 : decode cX6_carryOut 61 = .ok (.iadd, 1) := by decide +kernel
theorem dX6_carryOut_62 : decode cX6_carryOut 62 = .ok (.putfield 309, 3) := by decide +kernel
theorem dX6_carryOut_65 : decode cX6_carryOut 65 = .ok (.aload_n 1, 1) := by decide +kernel
theorem dX6_carryOut_66 : decode cX6_carryOut 66 = .ok (.getfield 457, 3) := by decide +kernel
theorem dX6_carryOut_69 : decode cX6_carryOut 69 = .ok (.aload_n 1, 1) := by decide +kernel
theorem dX6_carryOut_70 : decode cX6_carryOut 70 = .ok (.getfield 452, 3) := by decide +kernel
theorem dX6_carryOut_73 : decode cX6_carryOut 73 = .ok (.getfield 201, 3) := by decide +kernel
theorem dX6_carryOut_76 : decode cX6_carryOut 76 = .ok (.aload_n 0, 1) := by decide +kernel
theorem dX6_carryOut_77 : decode cX6_carryOut 77 = .ok (.getfield 46, 3) := by decide +kernel
theorem dX6_carryOut_80 : decode cX6_carryOut 80 = .ok (.invokevirtual 460, 3) := by decide +kernel
theorem dX6_carryOut_83 : decode cX6_carryOut 83 = .ok (.aload_n 1, 1) := by decide +kernel
theorem dX6_carryOut_84 : decode cX6_carryOut 84 = .ok (.getfield 452, 3) := by decide +kernel
theorem dX6_carryOut_87 : decode cX6_carryOut 87 = .ok (.getfield 201, 3) := by decide +kernel
theorem dX6_carryOut_90 : decode cX6_carryOut 90 = .ok (.iconst 2, 1) := by decide +kernel
theorem dX6_carryOut_91 : decode cX6_carryOut 91 = .ok (.if_icmp .ne 15, 3) := by decide +kernel
theorem dX6_carryOut_94 : decode cX6_carryOut 94 = .ok (.aload_n 0, 1) := by decide +kernel
theorem dX6_carryOut_95 : decode cX6_carryOut 95 = .ok (.dup, 1) := by decide +kernel
theorem dX6_carryOut_96 : decode cX6_carryOut 96 = .ok (.getfield 49, 3) := by decide +kernel
theorem dX6_carryOut_99 : decode cX6_carryOut 99 = .ok (.sipush 300, 3) := by decide +kernel
theorem dX6_carryOut_102 : decode cX6_carryOut 102 = .ok (.iadd, 1) := by decide +kernel
theorem dX6_carryOut_103 : decode cX6_carryOut 103 = .ok (.putfield 49, 3) := by decide +kernel
theorem dX6_carryOut_106 : decode cX6_carryOut 106 = .ok (.return_, 1) := by decide +kernel
theorem dX6_hoursTaken_0 : decode cX6_hoursTaken 0 = .ok (.iconst 0, 1) := by decide +kernel
theorem dX6_hoursTaken_1 : decode cX6_hoursTaken 1 = .ok (.istore_n 2, 1) := by decide +kernel
theorem dX6_hoursTaken_2 : decode cX6_hoursTaken 2 = .ok (.iconst 0, 1) := by decide +kernel
theorem dX6_hoursTaken_3 : decode cX6_hoursTaken 3 = .ok (.istore_n 3, 1) := by decide +kernel
theorem dX6_hoursTaken_4 : decode cX6_hoursTaken 4 = .ok (.iload_n 3, 1) := by decide +kernel
theorem dX6_hoursTaken_5 : decode cX6_hoursTaken 5 = .ok (.aload_n 0, 1) := by decide +kernel
theorem dX6_hoursTaken_6 : decode cX6_hoursTaken 6 = .ok (.getfield 22, 3) := by decide +kernel
theorem dX6_hoursTaken_9 : decode cX6_hoursTaken 9 = .ok (.invokevirtual 104, 3) := by decide +kernel
theorem dX6_hoursTaken_12 : decode cX6_hoursTaken 12 = .ok (.if_icmp .ge 27, 3) := by decide +kernel
theorem dX6_hoursTaken_15 : decode cX6_hoursTaken 15 = .ok (.iload_n 2, 1) := by decide +kernel
theorem dX6_hoursTaken_16 : decode cX6_hoursTaken 16 = .ok (.aload_n 1, 1) := by decide +kernel
theorem dX6_hoursTaken_17 : decode cX6_hoursTaken 17 = .ok (.aload_n 0, 1) := by decide +kernel
theorem dX6_hoursTaken_18 : decode cX6_hoursTaken 18 = .ok (.getfield 22, 3) := by decide +kernel
theorem dX6_hoursTaken_21 : decode cX6_hoursTaken 21 = .ok (.iload_n 3, 1) := by decide +kernel
theorem dX6_hoursTaken_22 : decode cX6_hoursTaken 22 = .ok (.invokevirtual 130, 3) := by decide +kernel
theorem dX6_hoursTaken_25 : decode cX6_hoursTaken 25 = .ok (.checkcast 148, 3) := by decide +kernel
theorem dX6_hoursTaken_28 : decode cX6_hoursTaken 28 = .ok (.invokevirtual 463, 3) := by decide +kernel
theorem dX6_hoursTaken_31 : decode cX6_hoursTaken 31 = .ok (.iadd, 1) := by decide +kernel
theorem dX6_hoursTaken_32 : decode cX6_hoursTaken 32 = .ok (.istore_n 2, 1) := by decide +kernel
theorem dX6_hoursTaken_33 : decode cX6_hoursTaken 33 = .ok (.iinc 3 1, 3) := by decide +kernel
theorem dX6_hoursTaken_36 : decode cX6_hoursTaken 36 = .ok (.goto (-32), 3) := by decide +kernel
theorem dX6_hoursTaken_39 : decode cX6_hoursTaken 39 = .ok (.iload_n 2, 1) := by decide +kernel
theorem dX6_hoursTaken_40 : decode cX6_hoursTaken 40 = .ok (.ireturn, 1) := by decide +kernel
theorem dX6_costBehind_0 : decode cX6_costBehind 0 = .ok (.aload_n 0, 1) := by decide +kernel
theorem dX6_costBehind_1 : decode cX6_costBehind 1 = .ok (.getfield 38, 3) := by decide +kernel
theorem dX6_costBehind_4 : decode cX6_costBehind 4 = .ok (.aload_n 1, 1) := by decide +kernel
theorem dX6_costBehind_5 : decode cX6_costBehind 5 = .ok (.invokevirtual 346, 3) := by decide +kernel
theorem dX6_costBehind_8 : decode cX6_costBehind 8 = .ok (.iconst 0, 1) := by decide +kernel
theorem dX6_costBehind_9 : decode cX6_costBehind 9 = .ok (.istore 5, 2) := by decide +kernel
theorem dX6_costBehind_11 : decode cX6_costBehind 11 = .ok (.iload_n 2, 1) := by decide +kernel
theorem dX6_costBehind_12 : decode cX6_costBehind 12 = .ok (.iconst 3, 1) := by decide +kernel
theorem dX6_costBehind_13 : decode cX6_costBehind 13 = .ok (.if_icmp .eq 25, 3) := by decide +kernel
theorem dX6_costBehind_16 : decode cX6_costBehind 16 = .ok (.aload_n 0, 1) := by decide +kernel
theorem dX6_costBehind_17 : decode cX6_costBehind 17 = .ok (.getfield 38, 3) := by decide +kernel
theorem dX6_costBehind_20 : decode cX6_costBehind 20 = .ok (.iload_n 2, 1) := by decide +kernel
theorem dX6_costBehind_21 : decode cX6_costBehind 21 = .ok (.aload_n 0, 1) := by decide +kernel
theorem dX6_costBehind_22 : decode cX6_costBehind 22 = .ok (.getfield 46, 3) := by decide +kernel
theorem dX6_costBehind_25 : decode cX6_costBehind 25 = .ok (.invokevirtual 460, 3) := by decide +kernel
theorem dX6_costBehind_28 : decode cX6_costBehind 28 = .ok (.bipush 30, 2) := by decide +kernel
theorem dX6_costBehind_30 : decode cX6_costBehind 30 = .ok (.aload_n 1, 1) := by decide +kernel
theorem dX6_costBehind_31 : decode cX6_costBehind 31 = .ok (.iload_n 2, 1) := by decide +kernel
theorem dX6_costBehind_32 : decode cX6_costBehind 32 = .ok (.invokevirtual 204, 3) := by decide +kernel
theorem dX6_costBehind_35 : decode cX6_costBehind 35 = .ok (.imul, 1) := by decide +kernel
theorem dX6_costBehind_36 : decode cX6_costBehind 36 = .ok (.istore 5, 2) := by decide +kernel
theorem dX6_costBehind_38 : decode cX6_costBehind 38 = .ok (.iload_n 2, 1) := by decide +kernel
theorem dX6_costBehind_39 : decode cX6_costBehind 39 = .ok (.iconst 2, 1) := by decide +kernel
theorem dX6_costBehind_40 : decode cX6_costBehind 40 = .ok (.if_icmp .ne 9, 3) := by decide +kernel
theorem dX6_costBehind_43 : decode cX6_costBehind 43 = .ok (.iinc 5 300, 6) := by decide +kernel
theorem dX6_costBehind_49 : decode cX6_costBehind 49 = .ok (.iconst 0, 1) := by decide +kernel
theorem dX6_costBehind_50 : decode cX6_costBehind 50 = .ok (.istore 6, 2) := by decide +kernel
theorem dX6_costBehind_52 : decode cX6_costBehind 52 = .ok (.iload 6, 2) := by decide +kernel
theorem dX6_costBehind_54 : decode cX6_costBehind 54 = .ok (.iload 4, 2) := by decide +kernel
theorem dX6_costBehind_56 : decode cX6_costBehind 56 = .ok (.if_icmp .ge 37, 3) := by decide +kernel
theorem dX6_costBehind_59 : decode cX6_costBehind 59 = .ok (.aload_n 0, 1) := by decide +kernel
theorem dX6_costBehind_60 : decode cX6_costBehind 60 = .ok (.getfield 38, 3) := by decide +kernel
theorem dX6_costBehind_63 : decode cX6_costBehind 63 = .ok (.iload_n 3, 1) := by decide +kernel
theorem dX6_costBehind_64 : decode cX6_costBehind 64 = .ok (.invokevirtual 353, 3) := by decide +kernel
theorem dX6_costBehind_67 : decode cX6_costBehind 67 = .ok (.iload 5, 2) := by decide +kernel
theorem dX6_costBehind_69 : decode cX6_costBehind 69 = .ok (.iload_n 3, 1) := by decide +kernel
theorem dX6_costBehind_70 : decode cX6_costBehind 70 = .ok (.aload_n 0, 1) := by decide +kernel
theorem dX6_costBehind_71 : decode cX6_costBehind 71 = .ok (.getfield 38, 3) := by decide +kernel
theorem dX6_costBehind_74 : decode cX6_costBehind 74 = .ok (.aload_n 0, 1) := by decide +kernel
theorem dX6_costBehind_75 : decode cX6_costBehind 75 = .ok (.getfield 46, 3) := by decide +kernel
theorem dX6_costBehind_78 : decode cX6_costBehind 78 = .ok (.invokevirtual 289, 3) := by decide +kernel
theorem dX6_costBehind_81 : decode cX6_costBehind 81 = .ok (.invokestatic 433, 3) := by decide +kernel
theorem dX6_costBehind_84 : decode cX6_costBehind 84 = .ok (.iadd, 1) := by decide +kernel
theorem dX6_costBehind_85 : decode cX6_costBehind 85 = .ok (.istore 5, 2) := by decide +kernel
theorem dX6_costBehind_87 : decode cX6_costBehind 87 = .ok (.iinc 6 1, 3) := by decide +kernel
theorem dX6_costBehind_90 : decode cX6_costBehind 90 = .ok (.goto (-38), 3) := by decide +kernel
theorem dX6_costBehind_93 : decode cX6_costBehind 93 = .ok (.iload 5, 2) := by decide +kernel
theorem dX6_costBehind_95 : decode cX6_costBehind 95 = .ok (.ireturn, 1) := by decide +kernel
theorem dX6_countAligned_0 : decode cX6_countAligned 0 = .ok (.iconst 0, 1) := by decide +kernel
theorem dX6_countAligned_1 : decode cX6_countAligned 1 = .ok (.istore_n 1, 1) := by decide +kernel
theorem dX6_countAligned_2 : decode cX6_countAligned 2 = .ok (.iconst 0, 1) := by decide +kernel
theorem dX6_countAligned_3 : decode cX6_countAligned 3 = .ok (.istore_n 2, 1) := by decide +kernel
theorem dX6_countAligned_4 : decode cX6_countAligned 4 = .ok (.iload_n 2, 1) := by decide +kernel
theorem dX6_countAligned_5 : decode cX6_countAligned 5 = .ok (.aload_n 0, 1) := by decide +kernel
theorem dX6_countAligned_6 : decode cX6_countAligned 6 = .ok (.getfield 18, 3) := by decide +kernel
theorem dX6_countAligned_9 : decode cX6_countAligned 9 = .ok (.invokevirtual 104, 3) := by decide +kernel
theorem dX6_countAligned_12 : decode cX6_countAligned 12 = .ok (.if_icmp .ge 29, 3) := by decide +kernel
theorem dX6_countAligned_15 : decode cX6_countAligned 15 = .ok (.aload_n 0, 1) := by decide +kernel
theorem dX6_countAligned_16 : decode cX6_countAligned 16 = .ok (.getfield 18, 3) := by decide +kernel
theorem dX6_countAligned_19 : decode cX6_countAligned 19 = .ok (.iload_n 2, 1) := by decide +kernel
theorem dX6_countAligned_20 : decode cX6_countAligned 20 = .ok (.invokevirtual 130, 3) := by decide +kernel
theorem dX6_countAligned_23 : decode cX6_countAligned 23 = .ok (.checkcast 110, 3) := by decide +kernel
theorem dX6_countAligned_26 : decode cX6_countAligned 26 = .ok (.getfield 134, 3) := by decide +kernel
theorem dX6_countAligned_29 : decode cX6_countAligned 29 = .ok (.ifCond .eq 6, 3) := by decide +kernel
theorem dX6_countAligned_32 : decode cX6_countAligned 32 = .ok (.iinc 1 1, 3) := by decide +kernel
theorem dX6_countAligned_35 : decode cX6_countAligned 35 = .ok (.iinc 2 1, 3) := by decide +kernel
theorem dX6_countAligned_38 : decode cX6_countAligned 38 = .ok (.goto (-34), 3) := by decide +kernel
theorem dX6_countAligned_41 : decode cX6_countAligned 41 = .ok (.iload_n 1, 1) := by decide +kernel
theorem dX6_countAligned_42 : decode cX6_countAligned 42 = .ok (.ireturn, 1) := by decide +kernel
theorem dX6_countPossessions_0 : decode cX6_countPossessions 0 = .ok (.iconst 0, 1) := by decide +kernel
theorem dX6_countPossessions_1 : decode cX6_countPossessions 1 = .ok (.istore_n 2, 1) := by decide +kernel
theorem dX6_countPossessions_2 : decode cX6_countPossessions 2 = .ok (.iconst 0, 1) := by decide +kernel
theorem dX6_countPossessions_3 : decode cX6_countPossessions 3 = .ok (.istore_n 3, 1) := by decide +kernel
theorem dX6_countPossessions_4 : decode cX6_countPossessions 4 = .ok (.iload_n 3, 1) := by decide +kernel
theorem dX6_countPossessions_5 : decode cX6_countPossessions 5 = .ok (.aload_n 0, 1) := by decide +kernel
theorem dX6_countPossessions_6 : decode cX6_countPossessions 6 = .ok (.getfield 25, 3) := by decide +kernel
theorem dX6_countPossessions_9 : decode cX6_countPossessions 9 = .ok (.invokevirtual 104, 3) := by decide +kernel
theorem dX6_countPossessions_12 : decode cX6_countPossessions 12 = .ok (.if_icmp .ge 30, 3) := by decide +kernel
theorem dX6_countPossessions_15 : decode cX6_countPossessions 15 = .ok (.aload_n 0, 1) := by decide +kernel
theorem dX6_countPossessions_16 : decode cX6_countPossessions 16 = .ok (.getfield 25, 3) := by decide +kernel
theorem dX6_countPossessions_19 : decode cX6_countPossessions 19 = .ok (.iload_n 3, 1) := by decide +kernel
theorem dX6_countPossessions_20 : decode cX6_countPossessions 20 = .ok (.invokevirtual 130, 3) := by decide +kernel
theorem dX6_countPossessions_23 : decode cX6_countPossessions 23 = .ok (.checkcast 176, 3) := by decide +kernel
theorem dX6_countPossessions_26 : decode cX6_countPossessions 26 = .ok (.getfield 191, 3) := by decide +kernel
theorem dX6_countPossessions_29 : decode cX6_countPossessions 29 = .ok (.iload_n 1, 1) := by decide +kernel
theorem dX6_countPossessions_30 : decode cX6_countPossessions 30 = .ok (.if_icmp .ne 6, 3) := by decide +kernel
theorem dX6_countPossessions_33 : decode cX6_countPossessions 33 = .ok (.iinc 2 1, 3) := by decide +kernel
theorem dX6_countPossessions_36 : decode cX6_countPossessions 36 = .ok (.iinc 3 1, 3) := by decide +kernel
theorem dX6_countPossessions_39 : decode cX6_countPossessions 39 = .ok (.goto (-35), 3) := by decide +kernel
theorem dX6_countPossessions_42 : decode cX6_countPossessions 42 = .ok (.iload_n 2, 1) := by decide +kernel
theorem dX6_countPossessions_43 : decode cX6_countPossessions 43 = .ok (.ireturn, 1) := by decide +kernel
theorem dX6_countTrueRisks_0 : decode cX6_countTrueRisks 0 = .ok (.iconst 0, 1) := by decide +kernel
theorem dX6_countTrueRisks_1 : decode cX6_countTrueRisks 1 = .ok (.istore_n 1, 1) := by decide +kernel
theorem dX6_countTrueRisks_2 : decode cX6_countTrueRisks 2 = .ok (.iconst 0, 1) := by decide +kernel
theorem dX6_countTrueRisks_3 : decode cX6_countTrueRisks 3 = .ok (.istore_n 2, 1) := by decide +kernel
theorem dX6_countTrueRisks_4 : decode cX6_countTrueRisks 4 = .ok (.iload_n 2, 1) := by decide +kernel
theorem dX6_countTrueRisks_5 : decode cX6_countTrueRisks 5 = .ok (.bipush 20, 2) := by decide +kernel
theorem dX6_countTrueRisks_7 : decode cX6_countTrueRisks 7 = .ok (.if_icmp .ge 28, 3) := by decide +kernel
theorem dX6_countTrueRisks_10 : decode cX6_countTrueRisks 10 = .ok (.aload_n 0, 1) := by decide +kernel
theorem dX6_countTrueRisks_11 : decode cX6_countTrueRisks 11 = .ok (.getfield 11, 3) := by decide +kernel
theorem dX6_countTrueRisks_14 : decode cX6_countTrueRisks 14 = .ok (.iload_n 2, 1) := by decide +kernel
theorem dX6_countTrueRisks_15 : decode cX6_countTrueRisks 15 = .ok (.aaload, 1) := by decide +kernel
theorem dX6_countTrueRisks_16 : decode cX6_countTrueRisks 16 = .ok (.aload_n 0, 1) := by decide +kernel
theorem dX6_countTrueRisks_17 : decode cX6_countTrueRisks 17 = .ok (.getfield 46, 3) := by decide +kernel
theorem dX6_countTrueRisks_20 : decode cX6_countTrueRisks 20 = .ok (.invokevirtual 350, 3) := by decide +kernel
theorem dX6_countTrueRisks_23 : decode cX6_countTrueRisks 23 = .ok (.ifCond .eq 6, 3) := by decide +kernel
theorem dX6_countTrueRisks_26 : decode cX6_countTrueRisks 26 = .ok (.iinc 1 1, 3) := by decide +kernel
theorem dX6_countTrueRisks_29 : decode cX6_countTrueRisks 29 = .ok (.iinc 2 1, 3) := by decide +kernel
theorem dX6_countTrueRisks_32 : decode cX6_countTrueRisks 32 = .ok (.goto (-28), 3) := by decide +kernel
theorem dX6_countTrueRisks_35 : decode cX6_countTrueRisks 35 = .ok (.iload_n 1, 1) := by decide +kernel
theorem dX6_countTrueRisks_36 : decode cX6_countTrueRisks 36 = .ok (.ireturn, 1) := by decide +kernel
theorem dX6_countKnownRisks_0 : decode cX6_countKnownRisks 0 = .ok (.iconst 0, 1) := by decide +kernel
theorem dX6_countKnownRisks_1 : decode cX6_countKnownRisks 1 = .ok (.istore_n 1, 1) := by decide +kernel
theorem dX6_countKnownRisks_2 : decode cX6_countKnownRisks 2 = .ok (.iconst 0, 1) := by decide +kernel
theorem dX6_countKnownRisks_3 : decode cX6_countKnownRisks 3 = .ok (.istore_n 2, 1) := by decide +kernel
theorem dX6_countKnownRisks_4 : decode cX6_countKnownRisks 4 = .ok (.iload_n 2, 1) := by decide +kernel
theorem dX6_countKnownRisks_5 : decode cX6_countKnownRisks 5 = .ok (.bipush 20, 2) := by decide +kernel
theorem dX6_countKnownRisks_7 : decode cX6_countKnownRisks 7 = .ok (.if_icmp .ge 43, 3) := by decide +kernel
theorem dX6_countKnownRisks_10 : decode cX6_countKnownRisks 10 = .ok (.aload_n 0, 1) := by decide +kernel
theorem dX6_countKnownRisks_11 : decode cX6_countKnownRisks 11 = .ok (.getfield 11, 3) := by decide +kernel
theorem dX6_countKnownRisks_14 : decode cX6_countKnownRisks 14 = .ok (.iload_n 2, 1) := by decide +kernel
theorem dX6_countKnownRisks_15 : decode cX6_countKnownRisks 15 = .ok (.aaload, 1) := by decide +kernel
theorem dX6_countKnownRisks_16 : decode cX6_countKnownRisks 16 = .ok (.astore_n 3, 1) := by decide +kernel
theorem dX6_countKnownRisks_17 : decode cX6_countKnownRisks 17 = .ok (.aload_n 3, 1) := by decide +kernel
theorem dX6_countKnownRisks_18 : decode cX6_countKnownRisks 18 = .ok (.getfield 79, 3) := by decide +kernel
theorem dX6_countKnownRisks_21 : decode cX6_countKnownRisks 21 = .ok (.aload_n 0, 1) := by decide +kernel
theorem dX6_countKnownRisks_22 : decode cX6_countKnownRisks 22 = .ok (.iload_n 2, 1) := by decide +kernel
theorem dX6_countKnownRisks_23 : decode cX6_countKnownRisks 23 = .ok (.invokevirtual 294, 3) := by decide +kernel
theorem dX6_countKnownRisks_26 : decode cX6_countKnownRisks 26 = .ok (.aload_n 0, 1) := by decide +kernel
theorem dX6_countKnownRisks_27 : decode cX6_countKnownRisks 27 = .ok (.getfield 46, 3) := by decide +kernel
theorem dX6_countKnownRisks_30 : decode cX6_countKnownRisks 30 = .ok (.aload_n 3, 1) := by decide +kernel
theorem dX6_countKnownRisks_31 : decode cX6_countKnownRisks 31 = .ok (.getfield 286, 3) := by decide +kernel
theorem dX6_countKnownRisks_34 : decode cX6_countKnownRisks 34 = .ok (.isub, 1) := by decide +kernel
theorem dX6_countKnownRisks_35 : decode cX6_countKnownRisks 35 = .ok (.invokevirtual 298, 3) := by decide +kernel
theorem dX6_countKnownRisks_38 : decode cX6_countKnownRisks 38 = .ok (.if_icmp .le 6, 3) := by decide +kernel
theorem dX6_countKnownRisks_41 : decode cX6_countKnownRisks 41 = .ok (.iinc 1 1, 3) := by decide +kernel
theorem dX6_countKnownRisks_44 : decode cX6_countKnownRisks 44 = .ok (.iinc 2 1, 3) := by decide +kernel
theorem dX6_countKnownRisks_47 : decode cX6_countKnownRisks 47 = .ok (.goto (-43), 3) := by decide +kernel
theorem dX6_countKnownRisks_50 : decode cX6_countKnownRisks 50 = .ok (.iload_n 1, 1) := by decide +kernel
theorem dX6_countKnownRisks_51 : decode cX6_countKnownRisks 51 = .ok (.ireturn, 1) := by decide +kernel
theorem dX7_init_0 : decode cX7_init 0 = .ok (.aload_n 0, 1) := by decide +kernel
theorem dX7_init_1 : decode cX7_init 1 = .ok (.invokespecial 3, 3) := by decide +kernel
theorem dX7_init_4 : decode cX7_init 4 = .ok (.aload_n 0, 1) := by decide +kernel
theorem dX7_init_5 : decode cX7_init 5 = .ok (.bipush 20, 2) := by decide +kernel
theorem dX7_init_7 : decode cX7_init 7 = .ok (.bipush 7, 2) := by decide +kernel
theorem dX7_init_9 : decode cX7_init 9 = .ok (.multianewarray 9 2, 4) := by decide +kernel
theorem dX7_init_13 : decode cX7_init 13 = .ok (.putfield 11, 3) := by decide +kernel
theorem dX7_init_16 : decode cX7_init 16 = .ok (.aload_n 0, 1) := by decide +kernel
theorem dX7_init_17 : decode cX7_init 17 = .ok (.new 14, 3) := by decide +kernel
theorem dX7_init_20 : decode cX7_init 20 = .ok (.dup, 1) := by decide +kernel
theorem dX7_init_21 : decode cX7_init 21 = .ok (.invokespecial 16, 3) := by decide +kernel
theorem dX7_init_24 : decode cX7_init 24 = .ok (.putfield 17, 3) := by decide +kernel
theorem dX7_init_27 : decode cX7_init 27 = .ok (.aload_n 0, 1) := by decide +kernel
theorem dX7_init_28 : decode cX7_init 28 = .ok (.new 14, 3) := by decide +kernel
theorem dX7_init_31 : decode cX7_init 31 = .ok (.dup, 1) := by decide +kernel
theorem dX7_init_32 : decode cX7_init 32 = .ok (.invokespecial 16, 3) := by decide +kernel
theorem dX7_init_35 : decode cX7_init 35 = .ok (.putfield 21, 3) := by decide +kernel
theorem dX7_init_38 : decode cX7_init 38 = .ok (.aload_n 0, 1) := by decide +kernel
theorem dX7_init_39 : decode cX7_init 39 = .ok (.new 14, 3) := by decide +kernel
theorem dX7_init_42 : decode cX7_init 42 = .ok (.dup, 1) := by decide +kernel
theorem dX7_init_43 : decode cX7_init 43 = .ok (.invokespecial 16, 3) := by decide +kernel
theorem dX7_init_46 : decode cX7_init 46 = .ok (.putfield 24, 3) := by decide +kernel
theorem dX7_init_49 : decode cX7_init 49 = .ok (.aload_n 0, 1) := by decide +kernel
theorem dX7_init_50 : decode cX7_init 50 = .ok (.bipush 20, 2) := by decide +kernel
theorem dX7_init_52 : decode cX7_init 52 = .ok (.putfield 27, 3) := by decide +kernel
theorem dX7_init_55 : decode cX7_init 55 = .ok (.aload_n 0, 1) := by decide +kernel
theorem dX7_init_56 : decode cX7_init 56 = .ok (.getfield 11, 3) := by decide +kernel
theorem dX7_init_59 : decode cX7_init 59 = .ok (.astore_n 1, 1) := by decide +kernel
theorem dX7_init_60 : decode cX7_init 60 = .ok (.aload_n 1, 1) := by decide +kernel
theorem dX7_init_61 : decode cX7_init 61 = .ok (.arraylength, 1) := by decide +kernel
theorem dX7_init_62 : decode cX7_init 62 = .ok (.istore_n 2, 1) := by decide +kernel
theorem dX7_init_63 : decode cX7_init 63 = .ok (.iconst 0, 1) := by decide +kernel
theorem dX7_init_64 : decode cX7_init 64 = .ok (.istore_n 3, 1) := by decide +kernel
theorem dX7_init_65 : decode cX7_init 65 = .ok (.iload_n 3, 1) := by decide +kernel
theorem dX7_init_66 : decode cX7_init 66 = .ok (.iload_n 2, 1) := by decide +kernel
theorem dX7_init_67 : decode cX7_init 67 = .ok (.if_icmp .ge 28, 3) := by decide +kernel
theorem dX7_init_70 : decode cX7_init 70 = .ok (.aload_n 1, 1) := by decide +kernel
theorem dX7_init_71 : decode cX7_init 71 = .ok (.iload_n 3, 1) := by decide +kernel
theorem dX7_init_72 : decode cX7_init 72 = .ok (.aaload, 1) := by decide +kernel
theorem dX7_init_73 : decode cX7_init 73 = .ok (.astore 4, 2) := by decide +kernel
theorem dX7_init_75 : decode cX7_init 75 = .ok (.aload 4, 2) := by decide +kernel
theorem dX7_init_77 : decode cX7_init 77 = .ok (.iconst 4, 1) := by decide +kernel
theorem dX7_init_78 : decode cX7_init 78 = .ok (.bipush 27, 2) := by decide +kernel
theorem dX7_init_80 : decode cX7_init 80 = .ok (.iastore, 1) := by decide +kernel
theorem dX7_init_81 : decode cX7_init 81 = .ok (.aload 4, 2) := by decide +kernel
theorem dX7_init_83 : decode cX7_init 83 = .ok (.bipush 6, 2) := by decide +kernel
theorem dX7_init_85 : decode cX7_init 85 = .ok (.sipush 160, 3) := by decide +kernel
theorem dX7_init_88 : decode cX7_init 88 = .ok (.iastore, 1) := by decide +kernel
theorem dX7_init_89 : decode cX7_init 89 = .ok (.iinc 3 1, 3) := by decide +kernel
theorem dX7_init_92 : decode cX7_init 92 = .ok (.goto (-27), 3) := by decide +kernel
theorem dX7_init_95 : decode cX7_init 95 = .ok (.return_, 1) := by decide +kernel
theorem dX7_thrown_0 : decode cX7_thrown 0 = .ok (.aload_n 0, 1) := by decide +kernel
theorem dX7_thrown_1 : decode cX7_thrown 1 = .ok (.getfield 31, 3) := by decide +kernel
theorem dX7_thrown_4 : decode cX7_thrown 4 = .ok (.ireturn, 1) := by decide +kernel
theorem dX7_refuse_0 : decode cX7_refuse 0 = .ok (.aload_n 0, 1) := by decide +kernel
theorem dX7_refuse_1 : decode cX7_refuse 1 = .ok (.iload_n 1, 1) := by decide +kernel
theorem dX7_refuse_2 : decode cX7_refuse 2 = .ok (.putfield 31, 3) := by decide +kernel
theorem dX7_refuse_5 : decode cX7_refuse 5 = .ok (.iconst 0, 1) := by decide +kernel
theorem dX7_refuse_6 : decode cX7_refuse 6 = .ok (.ireturn, 1) := by decide +kernel
theorem dX7_is_0 : decode cX7_is 0 = .ok (.iload_n 0, 1) := by decide +kernel
theorem dX7_is_1 : decode cX7_is 1 = .ok (.iload_n 1, 1) := by decide +kernel
theorem dX7_is_2 : decode cX7_is 2 = .ok (.if_icmp .lt 12, 3) := by decide +kernel
theorem dX7_is_5 : decode cX7_is 5 = .ok (.iload_n 0, 1) := by decide +kernel
theorem dX7_is_6 : decode cX7_is 6 = .ok (.iload_n 2, 1) := by decide +kernel
theorem dX7_is_7 : decode cX7_is 7 = .ok (.if_icmp .gt 7, 3) := by decide +kernel
theorem dX7_is_10 : decode cX7_is 10 = .ok (.iconst 1, 1) := by decide +kernel
theorem dX7_is_11 : decode cX7_is 11 = .ok (.goto 4, 3) := by decide +kernel
theorem dX7_is_14 : decode cX7_is 14 = .ok (.iconst 0, 1) := by decide +kernel
theorem dX7_is_15 : decode cX7_is 15 = .ok (.ireturn, 1) := by decide +kernel
theorem dX7_bears_0 : decode cX7_bears 0 = .ok (.iload_n 2, 1) := by decide +kernel
theorem dX7_bears_1 : decode cX7_bears 1 = .ok (.iconst 4, 1) := by decide +kernel
theorem dX7_bears_2 : decode cX7_bears 2 = .ok (.if_icmp .ge 11, 3) := by decide +kernel
theorem dX7_bears_5 : decode cX7_bears 5 = .ok (.aload_n 0, 1) := by decide +kernel
theorem dX7_bears_6 : decode cX7_bears 6 = .ok (.iload_n 2, 1) := by decide +kernel
theorem dX7_bears_7 : decode cX7_bears 7 = .ok (.iconst 1, 1) := by decide +kernel
theorem dX7_bears_8 : decode cX7_bears 8 = .ok (.isub, 1) := by decide +kernel
theorem dX7_bears_9 : decode cX7_bears 9 = .ok (.iaload, 1) := by decide +kernel
theorem dX7_bears_10 : decode cX7_bears 10 = .ok (.goto 8, 3) := by decide +kernel
theorem dX7_bears_13 : decode cX7_bears 13 = .ok (.iload_n 1, 1) := by decide +kernel
theorem dX7_bears_14 : decode cX7_bears 14 = .ok (.aload_n 0, 1) := by decide +kernel
theorem dX7_bears_15 : decode cX7_bears 15 = .ok (.iconst 4, 1) := by decide +kernel
theorem dX7_bears_16 : decode cX7_bears 16 = .ok (.iaload, 1) := by decide +kernel
theorem dX7_bears_17 : decode cX7_bears 17 = .ok (.isub, 1) := by decide +kernel
theorem dX7_bears_18 : decode cX7_bears 18 = .ok (.istore_n 3, 1) := by decide +kernel
theorem dX7_bears_19 : decode cX7_bears 19 = .ok (.iload_n 2, 1) := by decide +kernel
theorem dX7_bears_20 : decode cX7_bears 20 = .ok (.tableswitch 149 1 3 #[28, 65, 101], 28) := by decide +kernel
theorem dX7_bears_48 : decode cX7_bears 48 = .ok (.iload_n 3, 1) := by decide +kernel
theorem dX7_bears_49 : decode cX7_bears 49 = .ok (.bipush 60, 2) := by decide +kernel
theorem dX7_bears_51 : decode cX7_bears 51 = .ok (.if_icmp .ge 9, 3) := by decide +kernel
theorem dX7_bears_54 : decode cX7_bears 54 = .ok (.sipush 160, 3) := by decide +kernel
theorem dX7_bears_57 : decode cX7_bears 57 = .ok (.goto 27, 3) := by decide +kernel
theorem dX7_bears_60 : decode cX7_bears 60 = .ok (.iload_n 3, 1) := by decide +kernel
theorem dX7_bears_61 : decode cX7_bears 61 = .ok (.bipush 80, 2) := by decide +kernel
theorem dX7_bears_63 : decode cX7_bears 63 = .ok (.if_icmp .ge 8, 3) := by decide +kernel
theorem dX7_bears_66 : decode cX7_bears 66 = .ok (.bipush 100, 2) := by decide +kernel
theorem dX7_bears_68 : decode cX7_bears 68 = .ok (.goto 16, 3) := by decide +kernel
theorem dX7_bears_71 : decode cX7_bears 71 = .ok (.iload_n 3, 1) := by decide +kernel
theorem dX7_bears_72 : decode cX7_bears 72 = .ok (.bipush 100, 2) := by decide +kernel
theorem dX7_bears_74 : decode cX7_bears 74 = .ok (.if_icmp .ge 8, 3) := by decide +kernel
theorem dX7_bears_77 : decode cX7_bears 77 = .ok (.bipush 60, 2) := by decide +kernel
theorem dX7_bears_79 : decode cX7_bears 79 = .ok (.goto 5, 3) := by decide +kernel
theorem dX7_bears_82 : decode cX7_bears 82 = .ok (.bipush 20, 2) := by decide +kernel
theorem dX7_bears_84 : decode cX7_bears 84 = .ok (.ireturn, 1) := by decide +kernel
theorem dX7_bears_85 : decode cX7_bears 85 = .ok (.iload_n 3, 1) := by decide +kernel
theorem dX7_bears_86 : decode cX7_bears 86 = .ok (.bipush 10, 2) := by decide +kernel
theorem dX7_bears_88 : decode cX7_bears 88 = .ok (.if_icmp .ge 9, 3) := by decide +kernel
theorem dX7_bears_91 : decode cX7_bears 91 = .ok (.sipush 160, 3) := by decide +kernel
theorem dX7_bears_94 : decode cX7_bears 94 = .ok (.goto 26, 3) := by decide +kernel
theorem dX7_bears_97 : decode cX7_bears 97 = .ok (.iload_n 3, 1) := by decide +kernel
theorem dX7_bears_98 : decode cX7_bears 98 = .ok (.bipush 20, 2) := by decide +kernel
theorem dX7_bears_100 : decode cX7_bears 100 = .ok (.if_icmp .ge 8, 3) := by decide +kernel
theorem dX7_bears_103 : decode cX7_bears 103 = .ok (.bipush 80, 2) := by decide +kernel
theorem dX7_bears_105 : decode cX7_bears 105 = .ok (.goto 15, 3) := by decide +kernel
theorem dX7_bears_108 : decode cX7_bears 108 = .ok (.iload_n 3, 1) := by decide +kernel
theorem dX7_bears_109 : decode cX7_bears 109 = .ok (.bipush 40, 2) := by decide +kernel
theorem dX7_bears_111 : decode cX7_bears 111 = .ok (.if_icmp .ge 8, 3) := by decide +kernel
theorem dX7_bears_114 : decode cX7_bears 114 = .ok (.bipush 40, 2) := by decide +kernel
theorem dX7_bears_116 : decode cX7_bears 116 = .ok (.goto 4, 3) := by decide +kernel
theorem dX7_bears_119 : decode cX7_bears 119 = .ok (.iconst 0, 1) := by decide +kernel
theorem dX7_bears_120 : decode cX7_bears 120 = .ok (.ireturn, 1) := by decide +kernel
theorem dX7_bears_121 : decode cX7_bears 121 = .ok (.iload_n 3, 1) := by decide +kernel
theorem dX7_bears_122 : decode cX7_bears 122 = .ok (.bipush 20, 2) := by decide +kernel
theorem dX7_bears_124 : decode cX7_bears 124 = .ok (.if_icmp .ge 9, 3) := by decide +kernel
theorem dX7_bears_127 : decode cX7_bears 127 = .ok (.sipush 160, 3) := by decide +kernel
theorem dX7_bears_130 : decode cX7_bears 130 = .ok (.goto 38, 3) := by decide +kernel
theorem dX7_bears_133 : decode cX7_bears 133 = .ok (.iload_n 3, 1) := by decide +kernel
theorem dX7_bears_134 : decode cX7_bears 134 = .ok (.bipush 30, 2) := by decide +kernel
theorem dX7_bears_136 : decode cX7_bears 136 = .ok (.if_icmp .ge 8, 3) := by decide +kernel
theorem dX7_bears_139 : decode cX7_bears 139 = .ok (.bipush 120, 2) := by decide +kernel
theorem dX7_bears_141 : decode cX7_bears 141 = .ok (.goto 27, 3) := by decide +kernel
theorem dX7_bears_144 : decode cX7_bears 144 = .ok (.iload_n 3, 1) := by decide +kernel
theorem dX7_bears_145 : decode cX7_bears 145 = .ok (.bipush 40, 2) := by decide +kernel
theorem dX7_bears_147 : decode cX7_bears 147 = .ok (.if_icmp .ge 8, 3) := by decide +kernel
theorem dX7_bears_150 : decode cX7_bears 150 = .ok (.bipush 80, 2) := by decide +kernel
theorem dX7_bears_152 : decode cX7_bears 152 = .ok (.goto 16, 3) := by decide +kernel
theorem dX7_bears_155 : decode cX7_bears 155 = .ok (.iload_n 3, 1) := by decide +kernel
theorem dX7_bears_156 : decode cX7_bears 156 = .ok (.bipush 50, 2) := by decide +kernel
theorem dX7_bears_158 : decode cX7_bears 158 = .ok (.if_icmp .ge 8, 3) := by decide +kernel
theorem dX7_bears_161 : decode cX7_bears 161 = .ok (.bipush 40, 2) := by decide +kernel
theorem dX7_bears_163 : decode cX7_bears 163 = .ok (.goto 5, 3) := by decide +kernel
theorem dX7_bears_166 : decode cX7_bears 166 = .ok (.bipush 10, 2) := by decide +kernel
theorem dX7_bears_168 : decode cX7_bears 168 = .ok (.ireturn, 1) := by decide +kernel
theorem dX7_bears_169 : decode cX7_bears 169 = .ok (.iload_n 3, 1) := by decide +kernel
theorem dX7_bears_170 : decode cX7_bears 170 = .ok (.bipush 30, 2) := by decide +kernel
theorem dX7_bears_172 : decode cX7_bears 172 = .ok (.if_icmp .le 8, 3) := by decide +kernel
theorem dX7_bears_175 : decode cX7_bears 175 = .ok (.bipush 40, 2) := by decide +kernel
theorem dX7_bears_177 : decode cX7_bears 177 = .ok (.goto 28, 3) := by decide +kernel
theorem dX7_bears_180 : decode cX7_bears 180 = .ok (.iload_n 3, 1) := by decide +kernel
theorem dX7_bears_181 : decode cX7_bears 181 = .ok (.bipush 20, 2) := by decide +kernel
theorem dX7_bears_183 : decode cX7_bears 183 = .ok (.if_icmp .le 8, 3) := by decide +kernel
theorem dX7_bears_186 : decode cX7_bears 186 = .ok (.bipush 80, 2) := by decide +kernel
theorem dX7_bears_188 : decode cX7_bears 188 = .ok (.goto 17, 3) := by decide +kernel
theorem dX7_bears_191 : decode cX7_bears 191 = .ok (.iload_n 3, 1) := by decide +kernel
theorem dX7_bears_192 : decode cX7_bears 192 = .ok (.bipush (-40), 2) := by decide +kernel
theorem dX7_bears_194 : decode cX7_bears 194 = .ok (.if_icmp .ge 8, 3) := by decide +kernel
theorem dX7_bears_197 : decode cX7_bears 197 = .ok (.bipush 100, 2) := by decide +kernel
theorem dX7_bears_199 : decode cX7_bears 199 = .ok (.goto 6, 3) := by decide +kernel
theorem dX7_bears_202 : decode cX7_bears 202 = .ok (.sipush 160, 3) := by decide +kernel
theorem dX7_bears_205 : decode cX7_bears 205 = .ok (.ireturn, 1) := by decide +kernel
theorem dX7_speedOf_0 : decode cX7_speedOf 0 = .ok (.sipush 160, 3) := by decide +kernel
theorem dX7_speedOf_3 : decode cX7_speedOf 3 = .ok (.istore_n 2, 1) := by decide +kernel
theorem dX7_speedOf_4 : decode cX7_speedOf 4 = .ok (.iconst 1, 1) := by decide +kernel
theorem dX7_speedOf_5 : decode cX7_speedOf 5 = .ok (.istore_n 3, 1) := by decide +kernel
theorem dX7_speedOf_6 : decode cX7_speedOf 6 = .ok (.iload_n 3, 1) := by decide +kernel
theorem dX7_speedOf_7 : decode cX7_speedOf 7 = .ok (.iconst 5, 1) := by decide +kernel
theorem dX7_speedOf_8 : decode cX7_speedOf 8 = .ok (.if_icmp .ge 20, 3) := by decide +kernel
theorem dX7_speedOf_11 : decode cX7_speedOf 11 = .ok (.iload_n 2, 1) := by decide +kernel
theorem dX7_speedOf_12 : decode cX7_speedOf 12 = .ok (.aload_n 0, 1) := by decide +kernel
theorem dX7_speedOf_13 : decode cX7_speedOf 13 = .ok (.iload_n 1, 1) := by decide +kernel
theorem dX7_speedOf_14 : decode cX7_speedOf 14 = .ok (.iload_n 3, 1) := by decide +kernel
theorem dX7_speedOf_15 : decode cX7_speedOf 15 = .ok (.invokestatic 34, 3) := by decide +kernel
theorem dX7_speedOf_18 : decode cX7_speedOf 18 = .ok (.invokestatic 38, 3) := by decide +kernel
theorem dX7_speedOf_21 : decode cX7_speedOf 21 = .ok (.istore_n 2, 1) := by decide +kernel
theorem dX7_speedOf_22 : decode cX7_speedOf 22 = .ok (.iinc 3 1, 3) := by decide +kernel
theorem dX7_speedOf_25 : decode cX7_speedOf 25 = .ok (.goto (-19), 3) := by decide +kernel
theorem dX7_speedOf_28 : decode cX7_speedOf 28 = .ok (.iload_n 2, 1) := by decide +kernel
theorem dX7_speedOf_29 : decode cX7_speedOf 29 = .ok (.ireturn, 1) := by decide +kernel
theorem dX7_whyOf_0 : decode cX7_whyOf 0 = .ok (.aload_n 0, 1) := by decide +kernel
theorem dX7_whyOf_1 : decode cX7_whyOf 1 = .ok (.iload_n 1, 1) := by decide +kernel
theorem dX7_whyOf_2 : decode cX7_whyOf 2 = .ok (.invokestatic 44, 3) := by decide +kernel
theorem dX7_whyOf_5 : decode cX7_whyOf 5 = .ok (.istore_n 2, 1) := by decide +kernel
theorem dX7_whyOf_6 : decode cX7_whyOf 6 = .ok (.iload_n 2, 1) := by decide +kernel
theorem dX7_whyOf_7 : decode cX7_whyOf 7 = .ok (.sipush 160, 3) := by decide +kernel
theorem dX7_whyOf_10 : decode cX7_whyOf 10 = .ok (.if_icmp .ne 5, 3) := by decide +kernel
theorem dX7_whyOf_13 : decode cX7_whyOf 13 = .ok (.iconst 0, 1) := by decide +kernel
theorem dX7_whyOf_14 : decode cX7_whyOf 14 = .ok (.ireturn, 1) := by decide +kernel
theorem dX7_whyOf_15 : decode cX7_whyOf 15 = .ok (.iconst 1, 1) := by decide +kernel
theorem dX7_whyOf_16 : decode cX7_whyOf 16 = .ok (.istore_n 3, 1) := by decide +kernel
theorem dX7_whyOf_17 : decode cX7_whyOf 17 = .ok (.aload_n 0, 1) := by decide +kernel
theorem dX7_whyOf_18 : decode cX7_whyOf 18 = .ok (.iload_n 1, 1) := by decide +kernel
theorem dX7_whyOf_19 : decode cX7_whyOf 19 = .ok (.iload_n 3, 1) := by decide +kernel
theorem dX7_whyOf_20 : decode cX7_whyOf 20 = .ok (.invokestatic 34, 3) := by decide +kernel
theorem dX7_whyOf_23 : decode cX7_whyOf 23 = .ok (.iload_n 2, 1) := by decide +kernel
theorem dX7_whyOf_24 : decode cX7_whyOf 24 = .ok (.if_icmp .eq 9, 3) := by decide +kernel
theorem dX7_whyOf_27 : decode cX7_whyOf 27 = .ok (.iinc 3 1, 3) := by decide +kernel
theorem dX7_whyOf_30 : decode cX7_whyOf 30 = .ok (.goto (-13), 3) := by decide +kernel
theorem dX7_whyOf_33 : decode cX7_whyOf 33 = .ok (.iload_n 3, 1) := by decide +kernel
theorem dX7_whyOf_34 : decode cX7_whyOf 34 = .ok (.ireturn, 1) := by decide +kernel
theorem dX7_knownOf_0 : decode cX7_knownOf 0 = .ok (.bipush 7, 2) := by decide +kernel
theorem dX7_knownOf_2 : decode cX7_knownOf 2 = .ok (.newarray .int, 2) := by decide +kernel
theorem dX7_knownOf_4 : decode cX7_knownOf 4 = .ok (.astore_n 2, 1) := by decide +kernel
theorem dX7_knownOf_5 : decode cX7_knownOf 5 = .ok (.aload_n 2, 1) := by decide +kernel
theorem dX7_knownOf_6 : decode cX7_knownOf 6 = .ok (.iconst 4, 1) := by decide +kernel
theorem dX7_knownOf_7 : decode cX7_knownOf 7 = .ok (.aload_n 0, 1) := by decide +kernel
theorem dX7_knownOf_8 : decode cX7_knownOf 8 = .ok (.getfield 11, 3) := by decide +kernel
theorem dX7_knownOf_11 : decode cX7_knownOf 11 = .ok (.iload_n 1, 1) := by decide +kernel
theorem dX7_knownOf_12 : decode cX7_knownOf 12 = .ok (.aaload, 1) := by decide +kernel
theorem dX7_knownOf_13 : decode cX7_knownOf 13 = .ok (.iconst 4, 1) := by decide +kernel
theorem dX7_knownOf_14 : decode cX7_knownOf 14 = .ok (.iaload, 1) := by decide +kernel
theorem dX7_knownOf_15 : decode cX7_knownOf 15 = .ok (.iastore, 1) := by decide +kernel
theorem dX7_knownOf_16 : decode cX7_knownOf 16 = .ok (.aload_n 0, 1) := by decide +kernel
theorem dX7_knownOf_17 : decode cX7_knownOf 17 = .ok (.iload_n 1, 1) := by decide +kernel
theorem dX7_knownOf_18 : decode cX7_knownOf 18 = .ok (.invokevirtual 48, 3) := by decide +kernel
theorem dX7_knownOf_21 : decode cX7_knownOf 21 = .ok (.istore_n 3, 1) := by decide +kernel
theorem dX7_knownOf_22 : decode cX7_knownOf 22 = .ok (.iload_n 3, 1) := by decide +kernel
theorem dX7_knownOf_23 : decode cX7_knownOf 23 = .ok (.iconst (-1), 1) := by decide +kernel
theorem dX7_knownOf_24 : decode cX7_knownOf 24 = .ok (.if_icmp .ne 5, 3) := by decide +kernel
theorem dX7_knownOf_27 : decode cX7_knownOf 27 = .ok (.aload_n 2, 1) := by decide +kernel
theorem dX7_knownOf_28 : decode cX7_knownOf 28 = .ok (.areturn, 1) := by decide +kernel
theorem dX7_knownOf_29 : decode cX7_knownOf 29 = .ok (.aload_n 0, 1) := by decide +kernel
theorem dX7_knownOf_30 : decode cX7_knownOf 30 = .ok (.getfield 24, 3) := by decide +kernel
theorem dX7_knownOf_33 : decode cX7_knownOf 33 = .ok (.iload_n 3, 1) := by decide +kernel
theorem dX7_knownOf_34 : decode cX7_knownOf 34 = .ok (.invokevirtual 52, 3) := by decide +kernel
theorem dX7_knownOf_37 : decode cX7_knownOf 37 = .ok (.checkcast 56, 3) := by decide +kernel
theorem dX7_knownOf_40 : decode cX7_knownOf 40 = .ok (.astore 4, 2) := by decide +kernel
theorem dX7_knownOf_42 : decode cX7_knownOf 42 = .ok (.iconst 5, 1) := by decide +kernel
theorem dX7_knownOf_43 : decode cX7_knownOf 43 = .ok (.iconst 4, 1) := by decide +kernel
theorem dX7_knownOf_44 : decode cX7_knownOf 44 = .ok (.iload_n 1, 1) := by decide +kernel
theorem dX7_knownOf_45 : decode cX7_knownOf 45 = .ok (.bipush 10, 2) := by decide +kernel
theorem dX7_knownOf_47 : decode cX7_knownOf 47 = .ok (.irem, 1) := by decide +kernel
theorem dX7_knownOf_48 : decode cX7_knownOf 48 = .ok (.aload 4, 2) := by decide +kernel
theorem dX7_knownOf_50 : decode cX7_knownOf 50 = .ok (.iconst 4, 1) := by decide +kernel
theorem dX7_knownOf_51 : decode cX7_knownOf 51 = .ok (.iaload, 1) := by decide +kernel
theorem dX7_knownOf_52 : decode cX7_knownOf 52 = .ok (.iconst 1, 1) := by decide +kernel
theorem dX7_knownOf_53 : decode cX7_knownOf 53 = .ok (.if_icmp .ne 10, 3) := by decide +kernel
theorem dX7_knownOf_56 : decode cX7_knownOf 56 = .ok (.aload 4, 2) := by decide +kernel
theorem dX7_knownOf_58 : decode cX7_knownOf 58 = .ok (.iconst 3, 1) := by decide +kernel
theorem dX7_knownOf_59 : decode cX7_knownOf 59 = .ok (.iaload, 1) := by decide +kernel
theorem dX7_knownOf_60 : decode cX7_knownOf 60 = .ok (.goto 4, 3) := by decide +kernel
theorem dX7_knownOf_63 : decode cX7_knownOf 63 = .ok (.iconst 0, 1) := by decide +kernel
theorem dX7_knownOf_64 : decode cX7_knownOf 64 = .ok (.isub, 1) := by decide +kernel
theorem dX7_knownOf_65 : decode cX7_knownOf 65 = .ok (.imul, 1) := by decide +kernel
theorem dX7_knownOf_66 : decode cX7_knownOf 66 = .ok (.iadd, 1) := by decide +kernel
theorem dX7_knownOf_67 : decode cX7_knownOf 67 = .ok (.istore 5, 2) := by decide +kernel
theorem dX7_knownOf_69 : decode cX7_knownOf 69 = .ok (.aload 4, 2) := by decide +kernel
theorem dX7_knownOf_71 : decode cX7_knownOf 71 = .ok (.iload 5, 2) := by decide +kernel
theorem dX7_knownOf_73 : decode cX7_knownOf 73 = .ok (.iconst 1, 1) := by decide +kernel
theorem dX7_knownOf_74 : decode cX7_knownOf 74 = .ok (.iadd, 1) := by decide +kernel
theorem dX7_knownOf_75 : decode cX7_knownOf 75 = .ok (.aload_n 2, 1) := by decide +kernel
theorem dX7_knownOf_76 : decode cX7_knownOf 76 = .ok (.iconst 0, 1) := by decide +kernel
theorem dX7_knownOf_77 : decode cX7_knownOf 77 = .ok (.iconst 3, 1) := by decide +kernel
theorem dX7_knownOf_78 : decode cX7_knownOf 78 = .ok (.invokestatic 58, 3) := by decide +kernel
theorem dX7_knownOf_81 : decode cX7_knownOf 81 = .ok (.aload_n 2, 1) := by decide +kernel
theorem dX7_knownOf_82 : decode cX7_knownOf 82 = .ok (.areturn, 1) := by decide +kernel
theorem dX7_knownBy_0 : decode cX7_knownBy 0 = .ok (.aload_n 0, 1) := by decide +kernel
theorem dX7_knownBy_1 : decode cX7_knownBy 1 = .ok (.getfield 24, 3) := by decide +kernel
theorem dX7_knownBy_4 : decode cX7_knownBy 4 = .ok (.invokevirtual 64, 3) := by decide +kernel
theorem dX7_knownBy_7 : decode cX7_knownBy 7 = .ok (.iconst 1, 1) := by decide +kernel
theorem dX7_knownBy_8 : decode cX7_knownBy 8 = .ok (.isub, 1) := by decide +kernel
theorem dX7_knownBy_9 : decode cX7_knownBy 9 = .ok (.istore_n 2, 1) := by decide +kernel
theorem dX7_knownBy_10 : decode cX7_knownBy 10 = .ok (.iload_n 2, 1) := by decide +kernel
theorem dX7_knownBy_11 : decode cX7_knownBy 11 = .ok (.ifCond .lt 77, 3) := by decide +kernel
theorem dX7_knownBy_14 : decode cX7_knownBy 14 = .ok (.aload_n 0, 1) := by decide +kernel
theorem dX7_knownBy_15 : decode cX7_knownBy 15 = .ok (.getfield 24, 3) := by decide +kernel
theorem dX7_knownBy_18 : decode cX7_knownBy 18 = .ok (.iload_n 2, 1) := by decide +kernel
theorem dX7_knownBy_19 : decode cX7_knownBy 19 = .ok (.invokevirtual 52, 3) := by decide +kernel
theorem dX7_knownBy_22 : decode cX7_knownBy 22 = .ok (.checkcast 56, 3) := by decide +kernel
theorem dX7_knownBy_25 : decode cX7_knownBy 25 = .ok (.astore_n 3, 1) := by decide +kernel
theorem dX7_knownBy_26 : decode cX7_knownBy 26 = .ok (.iload_n 1, 1) := by decide +kernel
theorem dX7_knownBy_27 : decode cX7_knownBy 27 = .ok (.bipush 10, 2) := by decide +kernel
theorem dX7_knownBy_29 : decode cX7_knownBy 29 = .ok (.irem, 1) := by decide +kernel
theorem dX7_knownBy_30 : decode cX7_knownBy 30 = .ok (.aload_n 3, 1) := by decide +kernel
theorem dX7_knownBy_31 : decode cX7_knownBy 31 = .ok (.iconst 4, 1) := by decide +kernel
theorem dX7_knownBy_32 : decode cX7_knownBy 32 = .ok (.iaload, 1) := by decide +kernel
theorem dX7_knownBy_33 : decode cX7_knownBy 33 = .ok (.iconst 1, 1) := by decide +kernel
theorem dX7_knownBy_34 : decode cX7_knownBy 34 = .ok (.if_icmp .ne 9, 3) := by decide +kernel
theorem dX7_knownBy_37 : decode cX7_knownBy 37 = .ok (.aload_n 3, 1) := by decide +kernel
theorem dX7_knownBy_38 : decode cX7_knownBy 38 = .ok (.iconst 3, 1) := by decide +kernel
theorem dX7_knownBy_39 : decode cX7_knownBy 39 = .ok (.iaload, 1) := by decide +kernel
theorem dX7_knownBy_40 : decode cX7_knownBy 40 = .ok (.goto 4, 3) := by decide +kernel
theorem dX7_knownBy_43 : decode cX7_knownBy 43 = .ok (.iconst 0, 1) := by decide +kernel
theorem dX7_knownBy_44 : decode cX7_knownBy 44 = .ok (.isub, 1) := by decide +kernel
theorem dX7_knownBy_45 : decode cX7_knownBy 45 = .ok (.istore 4, 2) := by decide +kernel
theorem dX7_knownBy_47 : decode cX7_knownBy 47 = .ok (.aload_n 3, 1) := by decide +kernel
theorem dX7_knownBy_48 : decode cX7_knownBy 48 = .ok (.iconst 0, 1) := by decide +kernel
theorem dX7_knownBy_49 : decode cX7_knownBy 49 = .ok (.iaload, 1) := by decide +kernel
theorem dX7_knownBy_50 : decode cX7_knownBy 50 = .ok (.iload_n 1, 1) := by decide +kernel
theorem dX7_knownBy_51 : decode cX7_knownBy 51 = .ok (.bipush 10, 2) := by decide +kernel
theorem dX7_knownBy_53 : decode cX7_knownBy 53 = .ok (.idiv, 1) := by decide +kernel
theorem dX7_knownBy_54 : decode cX7_knownBy 54 = .ok (.if_icmp .ne 28, 3) := by decide +kernel
theorem dX7_knownBy_57 : decode cX7_knownBy 57 = .ok (.iload 4, 2) := by decide +kernel
theorem dX7_knownBy_59 : decode cX7_knownBy 59 = .ok (.iconst 0, 1) := by decide +kernel
theorem dX7_knownBy_60 : decode cX7_knownBy 60 = .ok (.bipush 9, 2) := by decide +kernel
theorem dX7_knownBy_62 : decode cX7_knownBy 62 = .ok (.invokestatic 68, 3) := by decide +kernel
theorem dX7_knownBy_65 : decode cX7_knownBy 65 = .ok (.ifCond .eq 17, 3) := by decide +kernel
theorem dX7_knownBy_68 : decode cX7_knownBy 68 = .ok (.aload_n 3, 1) := by decide +kernel
theorem dX7_knownBy_69 : decode cX7_knownBy 69 = .ok (.iconst 5, 1) := by decide +kernel
theorem dX7_knownBy_70 : decode cX7_knownBy 70 = .ok (.iconst 4, 1) := by decide +kernel
theorem dX7_knownBy_71 : decode cX7_knownBy 71 = .ok (.iload 4, 2) := by decide +kernel
theorem dX7_knownBy_73 : decode cX7_knownBy 73 = .ok (.imul, 1) := by decide +kernel
theorem dX7_knownBy_74 : decode cX7_knownBy 74 = .ok (.iadd, 1) := by decide +kernel
theorem dX7_knownBy_75 : decode cX7_knownBy 75 = .ok (.iaload, 1) := by decide +kernel
theorem dX7_knownBy_76 : decode cX7_knownBy 76 = .ok (.iconst 1, 1) := by decide +kernel
theorem dX7_knownBy_77 : decode cX7_knownBy 77 = .ok (.if_icmp .ne 5, 3) := by decide +kernel
theorem dX7_knownBy_80 : decode cX7_knownBy 80 = .ok (.iload_n 2, 1) := by decide +kernel
theorem dX7_knownBy_81 : decode cX7_knownBy 81 = .ok (.ireturn, 1) := by decide +kernel
theorem dX7_knownBy_82 : decode cX7_knownBy 82 = .ok (.iinc 2 (-1), 3) := by decide +kernel
theorem dX7_knownBy_85 : decode cX7_knownBy 85 = .ok (.goto (-75), 3) := by decide +kernel
end
section
theorem dX7_knownBy_88 : decode cX7_knownBy 88 = .ok (.iconst (-1), 1) := by decide +kernel
theorem dX7_knownBy_89 : decode cX7_knownBy 89 = .ok (.ireturn, 1) := by decide +kernel
theorem dX7_isSection_0 : decode cX7_isSection 0 = .ok (.iload_n 0, 1) := by decide +kernel
theorem dX7_isSection_1 : decode cX7_isSection 1 = .ok (.iconst 0, 1) := by decide +kernel
theorem dX7_isSection_2 : decode cX7_isSection 2 = .ok (.bipush 19, 2) := by decide +kernel
theorem dX7_isSection_4 : decode cX7_isSection 4 = .ok (.invokestatic 68, 3) := by decide +kernel
theorem dX7_isSection_7 : decode cX7_isSection 7 = .ok (.ireturn, 1) := by decide +kernel
theorem dX7_curve_0 : decode cX7_curve 0 = .ok (.aload_n 0, 1) := by decide +kernel
theorem dX7_curve_1 : decode cX7_curve 1 = .ok (.iload_n 1, 1) := by decide +kernel
theorem dX7_curve_2 : decode cX7_curve 2 = .ok (.invokestatic 72, 3) := by decide +kernel
theorem dX7_curve_5 : decode cX7_curve 5 = .ok (.ifCond .eq 7, 3) := by decide +kernel
theorem dX7_curve_8 : decode cX7_curve 8 = .ok (.iconst 0, 1) := by decide +kernel
theorem dX7_curve_9 : decode cX7_curve 9 = .ok (.goto 4, 3) := by decide +kernel
theorem dX7_curve_12 : decode cX7_curve 12 = .ok (.iconst 1, 1) := by decide +kernel
theorem dX7_curve_13 : decode cX7_curve 13 = .ok (.putfield 31, 3) := by decide +kernel
theorem dX7_curve_16 : decode cX7_curve 16 = .ok (.aload_n 0, 1) := by decide +kernel
theorem dX7_curve_17 : decode cX7_curve 17 = .ok (.getfield 31, 3) := by decide +kernel
theorem dX7_curve_20 : decode cX7_curve 20 = .ok (.ifCond .le 5, 3) := by decide +kernel
theorem dX7_curve_23 : decode cX7_curve 23 = .ok (.iconst 0, 1) := by decide +kernel
theorem dX7_curve_24 : decode cX7_curve 24 = .ok (.ireturn, 1) := by decide +kernel
theorem dX7_curve_25 : decode cX7_curve 25 = .ok (.aload_n 0, 1) := by decide +kernel
theorem dX7_curve_26 : decode cX7_curve 26 = .ok (.getfield 11, 3) := by decide +kernel
theorem dX7_curve_29 : decode cX7_curve 29 = .ok (.iload_n 1, 1) := by decide +kernel
theorem dX7_curve_30 : decode cX7_curve 30 = .ok (.aaload, 1) := by decide +kernel
theorem dX7_curve_31 : decode cX7_curve 31 = .ok (.iconst 5, 1) := by decide +kernel
theorem dX7_curve_32 : decode cX7_curve 32 = .ok (.iaload, 1) := by decide +kernel
theorem dX7_curve_33 : decode cX7_curve 33 = .ok (.iconst 1, 1) := by decide +kernel
theorem dX7_curve_34 : decode cX7_curve 34 = .ok (.if_icmp .ne 7, 3) := by decide +kernel
theorem dX7_curve_37 : decode cX7_curve 37 = .ok (.iconst 1, 1) := by decide +kernel
theorem dX7_curve_38 : decode cX7_curve 38 = .ok (.goto 4, 3) := by decide +kernel
theorem dX7_curve_41 : decode cX7_curve 41 = .ok (.iconst 0, 1) := by decide +kernel
theorem dX7_curve_42 : decode cX7_curve 42 = .ok (.istore_n 3, 1) := by decide +kernel
theorem dX7_curve_43 : decode cX7_curve 43 = .ok (.aload_n 0, 1) := by decide +kernel
theorem dX7_curve_44 : decode cX7_curve 44 = .ok (.getfield 11, 3) := by decide +kernel
theorem dX7_curve_47 : decode cX7_curve 47 = .ok (.iload_n 1, 1) := by decide +kernel
theorem dX7_curve_48 : decode cX7_curve 48 = .ok (.aaload, 1) := by decide +kernel
theorem dX7_curve_49 : decode cX7_curve 49 = .ok (.iconst 5, 1) := by decide +kernel
theorem dX7_curve_50 : decode cX7_curve 50 = .ok (.iload_n 2, 1) := by decide +kernel
theorem dX7_curve_51 : decode cX7_curve 51 = .ok (.ifCond .eq 7, 3) := by decide +kernel
theorem dX7_curve_54 : decode cX7_curve 54 = .ok (.iconst 1, 1) := by decide +kernel
theorem dX7_curve_55 : decode cX7_curve 55 = .ok (.goto 4, 3) := by decide +kernel
theorem dX7_curve_58 : decode cX7_curve 58 = .ok (.iconst 0, 1) := by decide +kernel
theorem dX7_curve_59 : decode cX7_curve 59 = .ok (.iastore, 1) := by decide +kernel
theorem dX7_curve_60 : decode cX7_curve 60 = .ok (.iload_n 3, 1) := by decide +kernel
theorem dX7_curve_61 : decode cX7_curve 61 = .ok (.ireturn, 1) := by decide +kernel
theorem dX7_sign_0 : decode cX7_sign 0 = .ok (.aload_n 0, 1) := by decide +kernel
theorem dX7_sign_1 : decode cX7_sign 1 = .ok (.iconst 0, 1) := by decide +kernel
theorem dX7_sign_2 : decode cX7_sign 2 = .ok (.putfield 31, 3) := by decide +kernel
theorem dX7_sign_5 : decode cX7_sign 5 = .ok (.iload_n 1, 1) := by decide +kernel
theorem dX7_sign_6 : decode cX7_sign 6 = .ok (.invokestatic 72, 3) := by decide +kernel
theorem dX7_sign_9 : decode cX7_sign 9 = .ok (.ifCond .ne 9, 3) := by decide +kernel
theorem dX7_sign_12 : decode cX7_sign 12 = .ok (.aload_n 0, 1) := by decide +kernel
theorem dX7_sign_13 : decode cX7_sign 13 = .ok (.iconst 1, 1) := by decide +kernel
theorem dX7_sign_14 : decode cX7_sign 14 = .ok (.invokevirtual 76, 3) := by decide +kernel
theorem dX7_sign_17 : decode cX7_sign 17 = .ok (.ireturn, 1) := by decide +kernel
theorem dX7_sign_18 : decode cX7_sign 18 = .ok (.iload_n 2, 1) := by decide +kernel
theorem dX7_sign_19 : decode cX7_sign 19 = .ok (.iconst 0, 1) := by decide +kernel
theorem dX7_sign_20 : decode cX7_sign 20 = .ok (.sipush 160, 3) := by decide +kernel
theorem dX7_sign_23 : decode cX7_sign 23 = .ok (.invokestatic 68, 3) := by decide +kernel
theorem dX7_sign_26 : decode cX7_sign 26 = .ok (.ifCond .ne 9, 3) := by decide +kernel
theorem dX7_sign_29 : decode cX7_sign 29 = .ok (.aload_n 0, 1) := by decide +kernel
theorem dX7_sign_30 : decode cX7_sign 30 = .ok (.iconst 2, 1) := by decide +kernel
theorem dX7_sign_31 : decode cX7_sign 31 = .ok (.invokevirtual 76, 3) := by decide +kernel
theorem dX7_sign_34 : decode cX7_sign 34 = .ok (.ireturn, 1) := by decide +kernel
theorem dX7_sign_35 : decode cX7_sign 35 = .ok (.aload_n 0, 1) := by decide +kernel
theorem dX7_sign_36 : decode cX7_sign 36 = .ok (.getfield 11, 3) := by decide +kernel
theorem dX7_sign_39 : decode cX7_sign 39 = .ok (.iload_n 1, 1) := by decide +kernel
theorem dX7_sign_40 : decode cX7_sign 40 = .ok (.aaload, 1) := by decide +kernel
theorem dX7_sign_41 : decode cX7_sign 41 = .ok (.bipush 6, 2) := by decide +kernel
theorem dX7_sign_43 : decode cX7_sign 43 = .ok (.iaload, 1) := by decide +kernel
theorem dX7_sign_44 : decode cX7_sign 44 = .ok (.istore_n 3, 1) := by decide +kernel
theorem dX7_sign_45 : decode cX7_sign 45 = .ok (.aload_n 0, 1) := by decide +kernel
theorem dX7_sign_46 : decode cX7_sign 46 = .ok (.getfield 11, 3) := by decide +kernel
theorem dX7_sign_49 : decode cX7_sign 49 = .ok (.iload_n 1, 1) := by decide +kernel
theorem dX7_sign_50 : decode cX7_sign 50 = .ok (.aaload, 1) := by decide +kernel
theorem dX7_sign_51 : decode cX7_sign 51 = .ok (.bipush 6, 2) := by decide +kernel
theorem dX7_sign_53 : decode cX7_sign 53 = .ok (.iload_n 2, 1) := by decide +kernel
theorem dX7_sign_54 : decode cX7_sign 54 = .ok (.iastore, 1) := by decide +kernel
theorem dX7_sign_55 : decode cX7_sign 55 = .ok (.iload_n 3, 1) := by decide +kernel
theorem dX7_sign_56 : decode cX7_sign 56 = .ok (.ireturn, 1) := by decide +kernel
theorem dX7_age_0 : decode cX7_age 0 = .ok (.aload_n 0, 1) := by decide +kernel
theorem dX7_age_1 : decode cX7_age 1 = .ok (.iconst 0, 1) := by decide +kernel
theorem dX7_age_2 : decode cX7_age 2 = .ok (.bipush 100, 2) := by decide +kernel
theorem dX7_age_4 : decode cX7_age 4 = .ok (.aload_n 0, 1) := by decide +kernel
theorem dX7_age_5 : decode cX7_age 5 = .ok (.iconst 0, 1) := by decide +kernel
theorem dX7_age_6 : decode cX7_age 6 = .ok (.iaload, 1) := by decide +kernel
theorem dX7_age_7 : decode cX7_age 7 = .ok (.iload_n 1, 1) := by decide +kernel
theorem dX7_age_8 : decode cX7_age 8 = .ok (.aload_n 0, 1) := by decide +kernel
theorem dX7_age_9 : decode cX7_age 9 = .ok (.iconst 5, 1) := by decide +kernel
theorem dX7_age_10 : decode cX7_age 10 = .ok (.iaload, 1) := by decide +kernel
theorem dX7_age_11 : decode cX7_age 11 = .ok (.iconst 1, 1) := by decide +kernel
theorem dX7_age_12 : decode cX7_age 12 = .ok (.if_icmp .ne 7, 3) := by decide +kernel
theorem dX7_age_15 : decode cX7_age 15 = .ok (.iconst 4, 1) := by decide +kernel
theorem dX7_age_16 : decode cX7_age 16 = .ok (.goto 5, 3) := by decide +kernel
theorem dX7_age_19 : decode cX7_age 19 = .ok (.bipush 8, 2) := by decide +kernel
theorem dX7_age_21 : decode cX7_age 21 = .ok (.idiv, 1) := by decide +kernel
theorem dX7_age_22 : decode cX7_age 22 = .ok (.iadd, 1) := by decide +kernel
theorem dX7_age_23 : decode cX7_age 23 = .ok (.invokestatic 38, 3) := by decide +kernel
theorem dX7_age_26 : decode cX7_age 26 = .ok (.iastore, 1) := by decide +kernel
theorem dX7_age_27 : decode cX7_age 27 = .ok (.aload_n 0, 1) := by decide +kernel
theorem dX7_age_28 : decode cX7_age 28 = .ok (.iconst 1, 1) := by decide +kernel
theorem dX7_age_29 : decode cX7_age 29 = .ok (.iaload, 1) := by decide +kernel
theorem dX7_age_30 : decode cX7_age 30 = .ok (.ifCond .le 26, 3) := by decide +kernel
theorem dX7_age_33 : decode cX7_age 33 = .ok (.aload_n 0, 1) := by decide +kernel
theorem dX7_age_34 : decode cX7_age 34 = .ok (.iconst 1, 1) := by decide +kernel
theorem dX7_age_35 : decode cX7_age 35 = .ok (.bipush 60, 2) := by decide +kernel
theorem dX7_age_37 : decode cX7_age 37 = .ok (.aload_n 0, 1) := by decide +kernel
theorem dX7_age_38 : decode cX7_age 38 = .ok (.iconst 1, 1) := by decide +kernel
theorem dX7_age_39 : decode cX7_age 39 = .ok (.iaload, 1) := by decide +kernel
theorem dX7_age_40 : decode cX7_age 40 = .ok (.iconst 1, 1) := by decide +kernel
theorem dX7_age_41 : decode cX7_age 41 = .ok (.iadd, 1) := by decide +kernel
theorem dX7_age_42 : decode cX7_age 42 = .ok (.aload_n 0, 1) := by decide +kernel
theorem dX7_age_43 : decode cX7_age 43 = .ok (.iconst 1, 1) := by decide +kernel
theorem dX7_age_44 : decode cX7_age 44 = .ok (.iaload, 1) := by decide +kernel
theorem dX7_age_45 : decode cX7_age 45 = .ok (.bipush 8, 2) := by decide +kernel
theorem dX7_age_47 : decode cX7_age 47 = .ok (.idiv, 1) := by decide +kernel
theorem dX7_age_48 : decode cX7_age 48 = .ok (.iadd, 1) := by decide +kernel
theorem dX7_age_49 : decode cX7_age 49 = .ok (.invokestatic 38, 3) := by decide +kernel
theorem dX7_age_52 : decode cX7_age 52 = .ok (.iastore, 1) := by decide +kernel
theorem dX7_age_53 : decode cX7_age 53 = .ok (.goto 15, 3) := by decide +kernel
theorem dX7_age_56 : decode cX7_age 56 = .ok (.aload_n 0, 1) := by decide +kernel
theorem dX7_age_57 : decode cX7_age 57 = .ok (.iconst 0, 1) := by decide +kernel
theorem dX7_age_58 : decode cX7_age 58 = .ok (.iaload, 1) := by decide +kernel
theorem dX7_age_59 : decode cX7_age 59 = .ok (.bipush 50, 2) := by decide +kernel
theorem dX7_age_61 : decode cX7_age 61 = .ok (.if_icmp .lt 7, 3) := by decide +kernel
theorem dX7_age_64 : decode cX7_age 64 = .ok (.aload_n 0, 1) := by decide +kernel
theorem dX7_age_65 : decode cX7_age 65 = .ok (.iconst 1, 1) := by decide +kernel
theorem dX7_age_66 : decode cX7_age 66 = .ok (.iconst 1, 1) := by decide +kernel
theorem dX7_age_67 : decode cX7_age 67 = .ok (.iastore, 1) := by decide +kernel
theorem dX7_age_68 : decode cX7_age 68 = .ok (.aload_n 0, 1) := by decide +kernel
theorem dX7_age_69 : decode cX7_age 69 = .ok (.iconst 2, 1) := by decide +kernel
theorem dX7_age_70 : decode cX7_age 70 = .ok (.bipush 60, 2) := by decide +kernel
theorem dX7_age_72 : decode cX7_age 72 = .ok (.aload_n 0, 1) := by decide +kernel
theorem dX7_age_73 : decode cX7_age 73 = .ok (.iconst 2, 1) := by decide +kernel
theorem dX7_age_74 : decode cX7_age 74 = .ok (.iaload, 1) := by decide +kernel
theorem dX7_age_75 : decode cX7_age 75 = .ok (.iload_n 1, 1) := by decide +kernel
theorem dX7_age_76 : decode cX7_age 76 = .ok (.iconst 5, 1) := by decide +kernel
theorem dX7_age_77 : decode cX7_age 77 = .ok (.aload_n 0, 1) := by decide +kernel
theorem dX7_age_78 : decode cX7_age 78 = .ok (.iconst 3, 1) := by decide +kernel
theorem dX7_age_79 : decode cX7_age 79 = .ok (.iaload, 1) := by decide +kernel
theorem dX7_age_80 : decode cX7_age 80 = .ok (.imul, 1) := by decide +kernel
theorem dX7_age_81 : decode cX7_age 81 = .ok (.iadd, 1) := by decide +kernel
theorem dX7_age_82 : decode cX7_age 82 = .ok (.bipush 10, 2) := by decide +kernel
theorem dX7_age_84 : decode cX7_age 84 = .ok (.idiv, 1) := by decide +kernel
theorem dX7_age_85 : decode cX7_age 85 = .ok (.iadd, 1) := by decide +kernel
theorem dX7_age_86 : decode cX7_age 86 = .ok (.invokestatic 38, 3) := by decide +kernel
theorem dX7_age_89 : decode cX7_age 89 = .ok (.iastore, 1) := by decide +kernel
theorem dX7_age_90 : decode cX7_age 90 = .ok (.return_, 1) := by decide +kernel
theorem dX7_pass_0 : decode cX7_pass 0 = .ok (.aload_n 0, 1) := by decide +kernel
theorem dX7_pass_1 : decode cX7_pass 1 = .ok (.getfield 21, 3) := by decide +kernel
theorem dX7_pass_4 : decode cX7_pass 4 = .ok (.invokevirtual 79, 3) := by decide +kernel
theorem dX7_pass_7 : decode cX7_pass 7 = .ok (.astore_n 3, 1) := by decide +kernel
theorem dX7_pass_8 : decode cX7_pass 8 = .ok (.aload_n 3, 1) := by decide +kernel
theorem dX7_pass_9 : decode cX7_pass 9 = .ok (.invokeinterface 83 1, 5) := by decide +kernel
theorem dX7_pass_14 : decode cX7_pass 14 = .ok (.ifCond .eq 59, 3) := by decide +kernel
theorem dX7_pass_17 : decode cX7_pass 17 = .ok (.aload_n 3, 1) := by decide +kernel
theorem dX7_pass_18 : decode cX7_pass 18 = .ok (.invokeinterface 89 1, 5) := by decide +kernel
theorem dX7_pass_23 : decode cX7_pass 23 = .ok (.checkcast 56, 3) := by decide +kernel
theorem dX7_pass_26 : decode cX7_pass 26 = .ok (.astore 4, 2) := by decide +kernel
theorem dX7_pass_28 : decode cX7_pass 28 = .ok (.aload 4, 2) := by decide +kernel
theorem dX7_pass_30 : decode cX7_pass 30 = .ok (.iconst 4, 1) := by decide +kernel
theorem dX7_pass_31 : decode cX7_pass 31 = .ok (.iaload, 1) := by decide +kernel
theorem dX7_pass_32 : decode cX7_pass 32 = .ok (.aload_n 0, 1) := by decide +kernel
theorem dX7_pass_33 : decode cX7_pass 33 = .ok (.getfield 93, 3) := by decide +kernel
theorem dX7_pass_36 : decode cX7_pass 36 = .ok (.if_icmp .eq 6, 3) := by decide +kernel
theorem dX7_pass_39 : decode cX7_pass 39 = .ok (.goto (-31), 3) := by decide +kernel
theorem dX7_pass_42 : decode cX7_pass 42 = .ok (.aload 4, 2) := by decide +kernel
theorem dX7_pass_44 : decode cX7_pass 44 = .ok (.iconst 0, 1) := by decide +kernel
theorem dX7_pass_45 : decode cX7_pass 45 = .ok (.iaload, 1) := by decide +kernel
theorem dX7_pass_46 : decode cX7_pass 46 = .ok (.ifCond .ne 8, 3) := by decide +kernel
theorem dX7_pass_49 : decode cX7_pass 49 = .ok (.aload 4, 2) := by decide +kernel
theorem dX7_pass_51 : decode cX7_pass 51 = .ok (.iconst 0, 1) := by decide +kernel
theorem dX7_pass_52 : decode cX7_pass 52 = .ok (.iconst 3, 1) := by decide +kernel
theorem dX7_pass_53 : decode cX7_pass 53 = .ok (.iastore, 1) := by decide +kernel
theorem dX7_pass_54 : decode cX7_pass 54 = .ok (.aload 4, 2) := by decide +kernel
theorem dX7_pass_56 : decode cX7_pass 56 = .ok (.iconst 0, 1) := by decide +kernel
theorem dX7_pass_57 : decode cX7_pass 57 = .ok (.iaload, 1) := by decide +kernel
theorem dX7_pass_58 : decode cX7_pass 58 = .ok (.iconst 1, 1) := by decide +kernel
theorem dX7_pass_59 : decode cX7_pass 59 = .ok (.if_icmp .ne 11, 3) := by decide +kernel
theorem dX7_pass_62 : decode cX7_pass 62 = .ok (.aload_n 0, 1) := by decide +kernel
theorem dX7_pass_63 : decode cX7_pass 63 = .ok (.aload 4, 2) := by decide +kernel
theorem dX7_pass_65 : decode cX7_pass 65 = .ok (.iconst 2, 1) := by decide +kernel
theorem dX7_pass_66 : decode cX7_pass 66 = .ok (.invokevirtual 96, 3) := by decide +kernel
theorem dX7_pass_69 : decode cX7_pass 69 = .ok (.pop, 1) := by decide +kernel
theorem dX7_pass_70 : decode cX7_pass 70 = .ok (.goto (-62), 3) := by decide +kernel
theorem dX7_pass_73 : decode cX7_pass 73 = .ok (.aload_n 0, 1) := by decide +kernel
theorem dX7_pass_74 : decode cX7_pass 74 = .ok (.dup, 1) := by decide +kernel
theorem dX7_pass_75 : decode cX7_pass 75 = .ok (.getfield 93, 3) := by decide +kernel
theorem dX7_pass_78 : decode cX7_pass 78 = .ok (.iconst 1, 1) := by decide +kernel
theorem dX7_pass_79 : decode cX7_pass 79 = .ok (.iadd, 1) := by decide +kernel
theorem dX7_pass_80 : decode cX7_pass 80 = .ok (.putfield 93, 3) := by decide +kernel
theorem dX7_pass_83 : decode cX7_pass 83 = .ok (.aload_n 0, 1) := by decide +kernel
theorem dX7_pass_84 : decode cX7_pass 84 = .ok (.iload_n 2, 1) := by decide +kernel
theorem dX7_pass_85 : decode cX7_pass 85 = .ok (.putfield 27, 3) := by decide +kernel
theorem dX7_pass_88 : decode cX7_pass 88 = .ok (.aload_n 0, 1) := by decide +kernel
theorem dX7_pass_89 : decode cX7_pass 89 = .ok (.getfield 11, 3) := by decide +kernel
theorem dX7_pass_92 : decode cX7_pass 92 = .ok (.astore_n 3, 1) := by decide +kernel
theorem dX7_pass_93 : decode cX7_pass 93 = .ok (.aload_n 3, 1) := by decide +kernel
theorem dX7_pass_94 : decode cX7_pass 94 = .ok (.arraylength, 1) := by decide +kernel
theorem dX7_pass_95 : decode cX7_pass 95 = .ok (.istore 4, 2) := by decide +kernel
theorem dX7_pass_97 : decode cX7_pass 97 = .ok (.iconst 0, 1) := by decide +kernel
theorem dX7_pass_98 : decode cX7_pass 98 = .ok (.istore 5, 2) := by decide +kernel
theorem dX7_pass_100 : decode cX7_pass 100 = .ok (.iload 5, 2) := by decide +kernel
theorem dX7_pass_102 : decode cX7_pass 102 = .ok (.iload 4, 2) := by decide +kernel
theorem dX7_pass_104 : decode cX7_pass 104 = .ok (.if_icmp .ge 44, 3) := by decide +kernel
theorem dX7_pass_107 : decode cX7_pass 107 = .ok (.aload_n 3, 1) := by decide +kernel
theorem dX7_pass_108 : decode cX7_pass 108 = .ok (.iload 5, 2) := by decide +kernel
theorem dX7_pass_110 : decode cX7_pass 110 = .ok (.aaload, 1) := by decide +kernel
theorem dX7_pass_111 : decode cX7_pass 111 = .ok (.astore 6, 2) := by decide +kernel
theorem dX7_pass_113 : decode cX7_pass 113 = .ok (.aload 6, 2) := by decide +kernel
theorem dX7_pass_115 : decode cX7_pass 115 = .ok (.iload_n 1, 1) := by decide +kernel
theorem dX7_pass_116 : decode cX7_pass 116 = .ok (.invokestatic 99, 3) := by decide +kernel
theorem dX7_pass_119 : decode cX7_pass 119 = .ok (.aload_n 0, 1) := by decide +kernel
theorem dX7_pass_120 : decode cX7_pass 120 = .ok (.dup, 1) := by decide +kernel
theorem dX7_pass_121 : decode cX7_pass 121 = .ok (.getfield 103, 3) := by decide +kernel
theorem dX7_pass_124 : decode cX7_pass 124 = .ok (.iload_n 1, 1) := by decide +kernel
theorem dX7_pass_125 : decode cX7_pass 125 = .ok (.sipush 160, 3) := by decide +kernel
theorem dX7_pass_128 : decode cX7_pass 128 = .ok (.aload 6, 2) := by decide +kernel
theorem dX7_pass_130 : decode cX7_pass 130 = .ok (.bipush 6, 2) := by decide +kernel
theorem dX7_pass_132 : decode cX7_pass 132 = .ok (.iaload, 1) := by decide +kernel
theorem dX7_pass_133 : decode cX7_pass 133 = .ok (.isub, 1) := by decide +kernel
theorem dX7_pass_134 : decode cX7_pass 134 = .ok (.imul, 1) := by decide +kernel
theorem dX7_pass_135 : decode cX7_pass 135 = .ok (.bipush 80, 2) := by decide +kernel
theorem dX7_pass_137 : decode cX7_pass 137 = .ok (.idiv, 1) := by decide +kernel
theorem dX7_pass_138 : decode cX7_pass 138 = .ok (.iadd, 1) := by decide +kernel
theorem dX7_pass_139 : decode cX7_pass 139 = .ok (.putfield 103, 3) := by decide +kernel
theorem dX7_pass_142 : decode cX7_pass 142 = .ok (.iinc 5 1, 3) := by decide +kernel
theorem dX7_pass_145 : decode cX7_pass 145 = .ok (.goto (-45), 3) := by decide +kernel
theorem dX7_pass_148 : decode cX7_pass 148 = .ok (.iconst 0, 1) := by decide +kernel
theorem dX7_pass_149 : decode cX7_pass 149 = .ok (.istore_n 3, 1) := by decide +kernel
theorem dX7_pass_150 : decode cX7_pass 150 = .ok (.aload_n 0, 1) := by decide +kernel
theorem dX7_pass_151 : decode cX7_pass 151 = .ok (.getfield 11, 3) := by decide +kernel
theorem dX7_pass_154 : decode cX7_pass 154 = .ok (.astore 4, 2) := by decide +kernel
theorem dX7_pass_156 : decode cX7_pass 156 = .ok (.aload 4, 2) := by decide +kernel
theorem dX7_pass_158 : decode cX7_pass 158 = .ok (.arraylength, 1) := by decide +kernel
theorem dX7_pass_159 : decode cX7_pass 159 = .ok (.istore 5, 2) := by decide +kernel
theorem dX7_pass_161 : decode cX7_pass 161 = .ok (.iconst 0, 1) := by decide +kernel
theorem dX7_pass_162 : decode cX7_pass 162 = .ok (.istore 6, 2) := by decide +kernel
theorem dX7_pass_164 : decode cX7_pass 164 = .ok (.iload 6, 2) := by decide +kernel
theorem dX7_pass_166 : decode cX7_pass 166 = .ok (.iload 5, 2) := by decide +kernel
theorem dX7_pass_168 : decode cX7_pass 168 = .ok (.if_icmp .ge 74, 3) := by decide +kernel
theorem dX7_pass_171 : decode cX7_pass 171 = .ok (.aload 4, 2) := by decide +kernel
theorem dX7_pass_173 : decode cX7_pass 173 = .ok (.iload 6, 2) := by decide +kernel
theorem dX7_pass_175 : decode cX7_pass 175 = .ok (.aaload, 1) := by decide +kernel
theorem dX7_pass_176 : decode cX7_pass 176 = .ok (.astore 7, 2) := by decide +kernel
theorem dX7_pass_178 : decode cX7_pass 178 = .ok (.aload 7, 2) := by decide +kernel
theorem dX7_pass_180 : decode cX7_pass 180 = .ok (.iconst 1, 1) := by decide +kernel
theorem dX7_pass_181 : decode cX7_pass 181 = .ok (.iaload, 1) := by decide +kernel
theorem dX7_pass_182 : decode cX7_pass 182 = .ok (.bipush 60, 2) := by decide +kernel
theorem dX7_pass_184 : decode cX7_pass 184 = .ok (.if_icmp .ne 27, 3) := by decide +kernel
theorem dX7_pass_187 : decode cX7_pass 187 = .ok (.aload 7, 2) := by decide +kernel
theorem dX7_pass_189 : decode cX7_pass 189 = .ok (.bipush 6, 2) := by decide +kernel
theorem dX7_pass_191 : decode cX7_pass 191 = .ok (.iaload, 1) := by decide +kernel
theorem dX7_pass_192 : decode cX7_pass 192 = .ok (.ifCond .le 19, 3) := by decide +kernel
theorem dX7_pass_195 : decode cX7_pass 195 = .ok (.aload 7, 2) := by decide +kernel
theorem dX7_pass_197 : decode cX7_pass 197 = .ok (.bipush 6, 2) := by decide +kernel
theorem dX7_pass_199 : decode cX7_pass 199 = .ok (.iconst 0, 1) := by decide +kernel
theorem dX7_pass_200 : decode cX7_pass 200 = .ok (.iastore, 1) := by decide +kernel
theorem dX7_pass_201 : decode cX7_pass 201 = .ok (.aload_n 0, 1) := by decide +kernel
theorem dX7_pass_202 : decode cX7_pass 202 = .ok (.dup, 1) := by decide +kernel
theorem dX7_pass_203 : decode cX7_pass 203 = .ok (.getfield 106, 3) := by decide +kernel
theorem dX7_pass_206 : decode cX7_pass 206 = .ok (.iconst 1, 1) := by decide +kernel
theorem dX7_pass_207 : decode cX7_pass 207 = .ok (.iadd, 1) := by decide +kernel
theorem dX7_pass_208 : decode cX7_pass 208 = .ok (.putfield 106, 3) := by decide +kernel
theorem dX7_pass_211 : decode cX7_pass 211 = .ok (.iload_n 3, 1) := by decide +kernel
theorem dX7_pass_212 : decode cX7_pass 212 = .ok (.aload 7, 2) := by decide +kernel
theorem dX7_pass_214 : decode cX7_pass 214 = .ok (.bipush 6, 2) := by decide +kernel
theorem dX7_pass_216 : decode cX7_pass 216 = .ok (.iaload, 1) := by decide +kernel
theorem dX7_pass_217 : decode cX7_pass 217 = .ok (.aload 7, 2) := by decide +kernel
theorem dX7_pass_219 : decode cX7_pass 219 = .ok (.aload_n 0, 1) := by decide +kernel
theorem dX7_pass_220 : decode cX7_pass 220 = .ok (.getfield 27, 3) := by decide +kernel
theorem dX7_pass_223 : decode cX7_pass 223 = .ok (.invokestatic 44, 3) := by decide +kernel
theorem dX7_pass_226 : decode cX7_pass 226 = .ok (.if_icmp .le 7, 3) := by decide +kernel
theorem dX7_pass_229 : decode cX7_pass 229 = .ok (.iconst 1, 1) := by decide +kernel
theorem dX7_pass_230 : decode cX7_pass 230 = .ok (.goto 4, 3) := by decide +kernel
theorem dX7_pass_233 : decode cX7_pass 233 = .ok (.iconst 0, 1) := by decide +kernel
theorem dX7_pass_234 : decode cX7_pass 234 = .ok (.iadd, 1) := by decide +kernel
theorem dX7_pass_235 : decode cX7_pass 235 = .ok (.istore_n 3, 1) := by decide +kernel
theorem dX7_pass_236 : decode cX7_pass 236 = .ok (.iinc 6 1, 3) := by decide +kernel
theorem dX7_pass_239 : decode cX7_pass 239 = .ok (.goto (-75), 3) := by decide +kernel
theorem dX7_pass_242 : decode cX7_pass 242 = .ok (.aload_n 0, 1) := by decide +kernel
theorem dX7_pass_243 : decode cX7_pass 243 = .ok (.dup, 1) := by decide +kernel
theorem dX7_pass_244 : decode cX7_pass 244 = .ok (.getfield 109, 3) := by decide +kernel
theorem dX7_pass_247 : decode cX7_pass 247 = .ok (.iload_n 3, 1) := by decide +kernel
theorem dX7_pass_248 : decode cX7_pass 248 = .ok (.iadd, 1) := by decide +kernel
theorem dX7_pass_249 : decode cX7_pass 249 = .ok (.putfield 109, 3) := by decide +kernel
theorem dX7_pass_252 : decode cX7_pass 252 = .ok (.iload_n 3, 1) := by decide +kernel
theorem dX7_pass_253 : decode cX7_pass 253 = .ok (.ireturn, 1) := by decide +kernel
theorem dX7_isTrains_0 : decode cX7_isTrains 0 = .ok (.iload_n 0, 1) := by decide +kernel
theorem dX7_isTrains_1 : decode cX7_isTrains 1 = .ok (.iconst 0, 1) := by decide +kernel
theorem dX7_isTrains_2 : decode cX7_isTrains 2 = .ok (.bipush 40, 2) := by decide +kernel
theorem dX7_isTrains_4 : decode cX7_isTrains 4 = .ok (.invokestatic 68, 3) := by decide +kernel
theorem dX7_isTrains_7 : decode cX7_isTrains 7 = .ok (.ireturn, 1) := by decide +kernel
theorem dX7_pass__0 : decode cX7_pass_ 0 = .ok (.aload_n 0, 1) := by decide +kernel
theorem dX7_pass__1 : decode cX7_pass_ 1 = .ok (.iconst 0, 1) := by decide +kernel
theorem dX7_pass__2 : decode cX7_pass_ 2 = .ok (.putfield 31, 3) := by decide +kernel
theorem dX7_pass__5 : decode cX7_pass_ 5 = .ok (.iload_n 1, 1) := by decide +kernel
theorem dX7_pass__6 : decode cX7_pass_ 6 = .ok (.invokestatic 112, 3) := by decide +kernel
theorem dX7_pass__9 : decode cX7_pass_ 9 = .ok (.ifCond .eq 24, 3) := by decide +kernel
theorem dX7_pass__12 : decode cX7_pass_ 12 = .ok (.iload_n 2, 1) := by decide +kernel
theorem dX7_pass__13 : decode cX7_pass_ 13 = .ok (.bipush (-20), 2) := by decide +kernel
theorem dX7_pass__15 : decode cX7_pass_ 15 = .ok (.bipush 60, 2) := by decide +kernel
theorem dX7_pass__17 : decode cX7_pass_ 17 = .ok (.invokestatic 68, 3) := by decide +kernel
theorem dX7_pass__20 : decode cX7_pass_ 20 = .ok (.ifCond .eq 13, 3) := by decide +kernel
theorem dX7_pass__23 : decode cX7_pass_ 23 = .ok (.iload_n 3, 1) := by decide +kernel
theorem dX7_pass__24 : decode cX7_pass_ 24 = .ok (.iconst 1, 1) := by decide +kernel
theorem dX7_pass__25 : decode cX7_pass_ 25 = .ok (.bipush 60, 2) := by decide +kernel
theorem dX7_pass__27 : decode cX7_pass_ 27 = .ok (.invokestatic 68, 3) := by decide +kernel
theorem dX7_pass__30 : decode cX7_pass_ 30 = .ok (.ifCond .ne 9, 3) := by decide +kernel
theorem dX7_pass__33 : decode cX7_pass_ 33 = .ok (.aload_n 0, 1) := by decide +kernel
theorem dX7_pass__34 : decode cX7_pass_ 34 = .ok (.iconst 1, 1) := by decide +kernel
theorem dX7_pass__35 : decode cX7_pass_ 35 = .ok (.invokevirtual 76, 3) := by decide +kernel
theorem dX7_pass__38 : decode cX7_pass_ 38 = .ok (.ireturn, 1) := by decide +kernel
theorem dX7_pass__39 : decode cX7_pass_ 39 = .ok (.aload_n 0, 1) := by decide +kernel
theorem dX7_pass__40 : decode cX7_pass_ 40 = .ok (.getfield 93, 3) := by decide +kernel
theorem dX7_pass__43 : decode cX7_pass_ 43 = .ok (.iload_n 3, 1) := by decide +kernel
theorem dX7_pass__44 : decode cX7_pass_ 44 = .ok (.iadd, 1) := by decide +kernel
theorem dX7_pass__45 : decode cX7_pass_ 45 = .ok (.sipush 2000, 3) := by decide +kernel
theorem dX7_pass__48 : decode cX7_pass_ 48 = .ok (.if_icmp .le 9, 3) := by decide +kernel
theorem dX7_pass__51 : decode cX7_pass_ 51 = .ok (.aload_n 0, 1) := by decide +kernel
theorem dX7_pass__52 : decode cX7_pass_ 52 = .ok (.iconst 2, 1) := by decide +kernel
theorem dX7_pass__53 : decode cX7_pass_ 53 = .ok (.invokevirtual 76, 3) := by decide +kernel
theorem dX7_pass__56 : decode cX7_pass_ 56 = .ok (.ireturn, 1) := by decide +kernel
theorem dX7_pass__57 : decode cX7_pass_ 57 = .ok (.iconst 0, 1) := by decide +kernel
theorem dX7_pass__58 : decode cX7_pass_ 58 = .ok (.istore 4, 2) := by decide +kernel
theorem dX7_pass__60 : decode cX7_pass_ 60 = .ok (.iconst 0, 1) := by decide +kernel
theorem dX7_pass__61 : decode cX7_pass_ 61 = .ok (.istore 5, 2) := by decide +kernel
theorem dX7_pass__63 : decode cX7_pass_ 63 = .ok (.iload 5, 2) := by decide +kernel
theorem dX7_pass__65 : decode cX7_pass_ 65 = .ok (.iload_n 3, 1) := by decide +kernel
theorem dX7_pass__66 : decode cX7_pass_ 66 = .ok (.if_icmp .ge 20, 3) := by decide +kernel
theorem dX7_pass__69 : decode cX7_pass_ 69 = .ok (.iload 4, 2) := by decide +kernel
theorem dX7_pass__71 : decode cX7_pass_ 71 = .ok (.aload_n 0, 1) := by decide +kernel
theorem dX7_pass__72 : decode cX7_pass_ 72 = .ok (.iload_n 1, 1) := by decide +kernel
theorem dX7_pass__73 : decode cX7_pass_ 73 = .ok (.iload_n 2, 1) := by decide +kernel
theorem dX7_pass__74 : decode cX7_pass_ 74 = .ok (.invokevirtual 115, 3) := by decide +kernel
theorem dX7_pass__77 : decode cX7_pass_ 77 = .ok (.iadd, 1) := by decide +kernel
theorem dX7_pass__78 : decode cX7_pass_ 78 = .ok (.istore 4, 2) := by decide +kernel
theorem dX7_pass__80 : decode cX7_pass_ 80 = .ok (.iinc 5 1, 3) := by decide +kernel
theorem dX7_pass__83 : decode cX7_pass_ 83 = .ok (.goto (-20), 3) := by decide +kernel
theorem dX7_pass__86 : decode cX7_pass_ 86 = .ok (.iload 4, 2) := by decide +kernel
theorem dX7_pass__88 : decode cX7_pass_ 88 = .ok (.ireturn, 1) := by decide +kernel
theorem dX7_isPart_0 : decode cX7_isPart 0 = .ok (.iload_n 0, 1) := by decide +kernel
theorem dX7_isPart_1 : decode cX7_isPart 1 = .ok (.iconst 0, 1) := by decide +kernel
theorem dX7_isPart_2 : decode cX7_isPart 2 = .ok (.iconst 1, 1) := by decide +kernel
theorem dX7_isPart_3 : decode cX7_isPart 3 = .ok (.invokestatic 68, 3) := by decide +kernel
theorem dX7_isPart_6 : decode cX7_isPart 6 = .ok (.ifCond .eq 27, 3) := by decide +kernel
theorem dX7_isPart_9 : decode cX7_isPart 9 = .ok (.iload_n 1, 1) := by decide +kernel
theorem dX7_isPart_10 : decode cX7_isPart 10 = .ok (.iconst 0, 1) := by decide +kernel
theorem dX7_isPart_11 : decode cX7_isPart 11 = .ok (.bipush 9, 2) := by decide +kernel
theorem dX7_isPart_13 : decode cX7_isPart 13 = .ok (.invokestatic 68, 3) := by decide +kernel
theorem dX7_isPart_16 : decode cX7_isPart 16 = .ok (.ifCond .eq 17, 3) := by decide +kernel
theorem dX7_isPart_19 : decode cX7_isPart 19 = .ok (.iload_n 2, 1) := by decide +kernel
theorem dX7_isPart_20 : decode cX7_isPart 20 = .ok (.iconst 0, 1) := by decide +kernel
theorem dX7_isPart_21 : decode cX7_isPart 21 = .ok (.bipush 9, 2) := by decide +kernel
theorem dX7_isPart_23 : decode cX7_isPart 23 = .ok (.invokestatic 68, 3) := by decide +kernel
theorem dX7_isPart_26 : decode cX7_isPart 26 = .ok (.ifCond .eq 7, 3) := by decide +kernel
theorem dX7_isPart_29 : decode cX7_isPart 29 = .ok (.iconst 1, 1) := by decide +kernel
theorem dX7_isPart_30 : decode cX7_isPart 30 = .ok (.goto 4, 3) := by decide +kernel
theorem dX7_isPart_33 : decode cX7_isPart 33 = .ok (.iconst 0, 1) := by decide +kernel
theorem dX7_isPart_34 : decode cX7_isPart 34 = .ok (.ireturn, 1) := by decide +kernel
theorem dX7_measure_0 : decode cX7_measure 0 = .ok (.aload_n 0, 1) := by decide +kernel
theorem dX7_measure_1 : decode cX7_measure 1 = .ok (.iconst 0, 1) := by decide +kernel
theorem dX7_measure_2 : decode cX7_measure 2 = .ok (.putfield 31, 3) := by decide +kernel
theorem dX7_measure_5 : decode cX7_measure 5 = .ok (.iload_n 1, 1) := by decide +kernel
theorem dX7_measure_6 : decode cX7_measure 6 = .ok (.iload_n 2, 1) := by decide +kernel
theorem dX7_measure_7 : decode cX7_measure 7 = .ok (.iload_n 3, 1) := by decide +kernel
theorem dX7_measure_8 : decode cX7_measure 8 = .ok (.invokestatic 118, 3) := by decide +kernel
theorem dX7_measure_11 : decode cX7_measure 11 = .ok (.ifCond .ne 9, 3) := by decide +kernel
theorem dX7_measure_14 : decode cX7_measure 14 = .ok (.aload_n 0, 1) := by decide +kernel
theorem dX7_measure_15 : decode cX7_measure 15 = .ok (.iconst 1, 1) := by decide +kernel
theorem dX7_measure_16 : decode cX7_measure 16 = .ok (.invokevirtual 76, 3) := by decide +kernel
theorem dX7_measure_19 : decode cX7_measure 19 = .ok (.ireturn, 1) := by decide +kernel
theorem dX7_measure_20 : decode cX7_measure 20 = .ok (.iload_n 3, 1) := by decide +kernel
theorem dX7_measure_21 : decode cX7_measure 21 = .ok (.iload_n 2, 1) := by decide +kernel
theorem dX7_measure_22 : decode cX7_measure 22 = .ok (.if_icmp .lt 14, 3) := by decide +kernel
theorem dX7_measure_25 : decode cX7_measure 25 = .ok (.iload 4, 2) := by decide +kernel
theorem dX7_measure_27 : decode cX7_measure 27 = .ok (.bipush (-2), 2) := by decide +kernel
theorem dX7_measure_29 : decode cX7_measure 29 = .ok (.iconst 2, 1) := by decide +kernel
theorem dX7_measure_30 : decode cX7_measure 30 = .ok (.invokestatic 68, 3) := by decide +kernel
theorem dX7_measure_33 : decode cX7_measure 33 = .ok (.ifCond .ne 9, 3) := by decide +kernel
theorem dX7_measure_36 : decode cX7_measure 36 = .ok (.aload_n 0, 1) := by decide +kernel
theorem dX7_measure_37 : decode cX7_measure 37 = .ok (.iconst 2, 1) := by decide +kernel
theorem dX7_measure_38 : decode cX7_measure 38 = .ok (.invokevirtual 76, 3) := by decide +kernel
theorem dX7_measure_41 : decode cX7_measure 41 = .ok (.ireturn, 1) := by decide +kernel
theorem dX7_measure_42 : decode cX7_measure 42 = .ok (.aload_n 0, 1) := by decide +kernel
theorem dX7_measure_43 : decode cX7_measure 43 = .ok (.getfield 24, 3) := by decide +kernel
theorem dX7_measure_46 : decode cX7_measure 46 = .ok (.invokevirtual 64, 3) := by decide +kernel
theorem dX7_measure_49 : decode cX7_measure 49 = .ok (.bipush 12, 2) := by decide +kernel
theorem dX7_measure_51 : decode cX7_measure 51 = .ok (.if_icmp .ne 9, 3) := by decide +kernel
theorem dX7_measure_54 : decode cX7_measure 54 = .ok (.aload_n 0, 1) := by decide +kernel
theorem dX7_measure_55 : decode cX7_measure 55 = .ok (.iconst 3, 1) := by decide +kernel
theorem dX7_measure_56 : decode cX7_measure 56 = .ok (.invokevirtual 76, 3) := by decide +kernel
theorem dX7_measure_59 : decode cX7_measure 59 = .ok (.ireturn, 1) := by decide +kernel
theorem dX7_measure_60 : decode cX7_measure 60 = .ok (.bipush 45, 2) := by decide +kernel
theorem dX7_measure_62 : decode cX7_measure 62 = .ok (.newarray .int, 2) := by decide +kernel
theorem dX7_measure_64 : decode cX7_measure 64 = .ok (.astore 5, 2) := by decide +kernel
theorem dX7_measure_66 : decode cX7_measure 66 = .ok (.aload 5, 2) := by decide +kernel
theorem dX7_measure_68 : decode cX7_measure 68 = .ok (.iconst 0, 1) := by decide +kernel
theorem dX7_measure_69 : decode cX7_measure 69 = .ok (.iload_n 1, 1) := by decide +kernel
theorem dX7_measure_70 : decode cX7_measure 70 = .ok (.iastore, 1) := by decide +kernel
theorem dX7_measure_71 : decode cX7_measure 71 = .ok (.aload 5, 2) := by decide +kernel
theorem dX7_measure_73 : decode cX7_measure 73 = .ok (.iconst 1, 1) := by decide +kernel
theorem dX7_measure_74 : decode cX7_measure 74 = .ok (.iload_n 2, 1) := by decide +kernel
theorem dX7_measure_75 : decode cX7_measure 75 = .ok (.iastore, 1) := by decide +kernel
theorem dX7_measure_76 : decode cX7_measure 76 = .ok (.aload 5, 2) := by decide +kernel
theorem dX7_measure_78 : decode cX7_measure 78 = .ok (.iconst 2, 1) := by decide +kernel
theorem dX7_measure_79 : decode cX7_measure 79 = .ok (.iload_n 3, 1) := by decide +kernel
theorem dX7_measure_80 : decode cX7_measure 80 = .ok (.iastore, 1) := by decide +kernel
theorem dX7_measure_81 : decode cX7_measure 81 = .ok (.aload 5, 2) := by decide +kernel
theorem dX7_measure_83 : decode cX7_measure 83 = .ok (.iconst 3, 1) := by decide +kernel
theorem dX7_measure_84 : decode cX7_measure 84 = .ok (.iload 4, 2) := by decide +kernel
theorem dX7_measure_86 : decode cX7_measure 86 = .ok (.iastore, 1) := by decide +kernel
theorem dX7_measure_87 : decode cX7_measure 87 = .ok (.iload_n 2, 1) := by decide +kernel
theorem dX7_measure_88 : decode cX7_measure 88 = .ok (.istore 6, 2) := by decide +kernel
theorem dX7_measure_90 : decode cX7_measure 90 = .ok (.iload 6, 2) := by decide +kernel
theorem dX7_measure_92 : decode cX7_measure 92 = .ok (.iload_n 3, 1) := by decide +kernel
theorem dX7_measure_93 : decode cX7_measure 93 = .ok (.if_icmp .gt 110, 3) := by decide +kernel
theorem dX7_measure_96 : decode cX7_measure 96 = .ok (.iload 6, 2) := by decide +kernel
theorem dX7_measure_98 : decode cX7_measure 98 = .ok (.iload 4, 2) := by decide +kernel
theorem dX7_measure_100 : decode cX7_measure 100 = .ok (.iadd, 1) := by decide +kernel
theorem dX7_measure_101 : decode cX7_measure 101 = .ok (.iconst 0, 1) := by decide +kernel
theorem dX7_measure_102 : decode cX7_measure 102 = .ok (.bipush 9, 2) := by decide +kernel
theorem dX7_measure_104 : decode cX7_measure 104 = .ok (.invokestatic 68, 3) := by decide +kernel
theorem dX7_measure_107 : decode cX7_measure 107 = .ok (.ifCond .ne 6, 3) := by decide +kernel
theorem dX7_measure_110 : decode cX7_measure 110 = .ok (.goto 87, 3) := by decide +kernel
theorem dX7_measure_113 : decode cX7_measure 113 = .ok (.aload_n 0, 1) := by decide +kernel
theorem dX7_measure_114 : decode cX7_measure 114 = .ok (.getfield 11, 3) := by decide +kernel
theorem dX7_measure_117 : decode cX7_measure 117 = .ok (.bipush 10, 2) := by decide +kernel
theorem dX7_measure_119 : decode cX7_measure 119 = .ok (.iload_n 1, 1) := by decide +kernel
theorem dX7_measure_120 : decode cX7_measure 120 = .ok (.imul, 1) := by decide +kernel
theorem dX7_measure_121 : decode cX7_measure 121 = .ok (.iload 6, 2) := by decide +kernel
theorem dX7_measure_123 : decode cX7_measure 123 = .ok (.iadd, 1) := by decide +kernel
theorem dX7_measure_124 : decode cX7_measure 124 = .ok (.iload 4, 2) := by decide +kernel
theorem dX7_measure_126 : decode cX7_measure 126 = .ok (.iadd, 1) := by decide +kernel
theorem dX7_measure_127 : decode cX7_measure 127 = .ok (.aaload, 1) := by decide +kernel
theorem dX7_measure_128 : decode cX7_measure 128 = .ok (.astore 7, 2) := by decide +kernel
theorem dX7_measure_130 : decode cX7_measure 130 = .ok (.aload 5, 2) := by decide +kernel
theorem dX7_measure_132 : decode cX7_measure 132 = .ok (.iconst 5, 1) := by decide +kernel
theorem dX7_measure_133 : decode cX7_measure 133 = .ok (.iconst 4, 1) := by decide +kernel
theorem dX7_measure_134 : decode cX7_measure 134 = .ok (.iload 6, 2) := by decide +kernel
theorem dX7_measure_136 : decode cX7_measure 136 = .ok (.imul, 1) := by decide +kernel
theorem dX7_measure_137 : decode cX7_measure 137 = .ok (.iadd, 1) := by decide +kernel
theorem dX7_measure_138 : decode cX7_measure 138 = .ok (.iconst 1, 1) := by decide +kernel
theorem dX7_measure_139 : decode cX7_measure 139 = .ok (.iastore, 1) := by decide +kernel
theorem dX7_measure_140 : decode cX7_measure 140 = .ok (.aload 5, 2) := by decide +kernel
theorem dX7_measure_142 : decode cX7_measure 142 = .ok (.iconst 5, 1) := by decide +kernel
theorem dX7_measure_143 : decode cX7_measure 143 = .ok (.iconst 4, 1) := by decide +kernel
theorem dX7_measure_144 : decode cX7_measure 144 = .ok (.iload 6, 2) := by decide +kernel
theorem dX7_measure_146 : decode cX7_measure 146 = .ok (.imul, 1) := by decide +kernel
theorem dX7_measure_147 : decode cX7_measure 147 = .ok (.iadd, 1) := by decide +kernel
theorem dX7_measure_148 : decode cX7_measure 148 = .ok (.iconst 1, 1) := by decide +kernel
theorem dX7_measure_149 : decode cX7_measure 149 = .ok (.iadd, 1) := by decide +kernel
theorem dX7_measure_150 : decode cX7_measure 150 = .ok (.aload 7, 2) := by decide +kernel
theorem dX7_measure_152 : decode cX7_measure 152 = .ok (.iconst 0, 1) := by decide +kernel
theorem dX7_measure_153 : decode cX7_measure 153 = .ok (.iaload, 1) := by decide +kernel
theorem dX7_measure_154 : decode cX7_measure 154 = .ok (.iastore, 1) := by decide +kernel
theorem dX7_measure_155 : decode cX7_measure 155 = .ok (.aload 5, 2) := by decide +kernel
theorem dX7_measure_157 : decode cX7_measure 157 = .ok (.iconst 5, 1) := by decide +kernel
theorem dX7_measure_158 : decode cX7_measure 158 = .ok (.iconst 4, 1) := by decide +kernel
theorem dX7_measure_159 : decode cX7_measure 159 = .ok (.iload 6, 2) := by decide +kernel
theorem dX7_measure_161 : decode cX7_measure 161 = .ok (.imul, 1) := by decide +kernel
theorem dX7_measure_162 : decode cX7_measure 162 = .ok (.iadd, 1) := by decide +kernel
theorem dX7_measure_163 : decode cX7_measure 163 = .ok (.iconst 2, 1) := by decide +kernel
theorem dX7_measure_164 : decode cX7_measure 164 = .ok (.iadd, 1) := by decide +kernel
theorem dX7_measure_165 : decode cX7_measure 165 = .ok (.aload 7, 2) := by decide +kernel
theorem dX7_measure_167 : decode cX7_measure 167 = .ok (.iconst 1, 1) := by decide +kernel
theorem dX7_measure_168 : decode cX7_measure 168 = .ok (.iaload, 1) := by decide +kernel
theorem dX7_measure_169 : decode cX7_measure 169 = .ok (.iconst 5, 1) := by decide +kernel
theorem dX7_measure_170 : decode cX7_measure 170 = .ok (.if_icmp .ge 7, 3) := by decide +kernel
theorem dX7_measure_173 : decode cX7_measure 173 = .ok (.iconst 0, 1) := by decide +kernel
theorem dX7_measure_174 : decode cX7_measure 174 = .ok (.goto 7, 3) := by decide +kernel
theorem dX7_measure_177 : decode cX7_measure 177 = .ok (.aload 7, 2) := by decide +kernel
theorem dX7_measure_179 : decode cX7_measure 179 = .ok (.iconst 1, 1) := by decide +kernel
theorem dX7_measure_180 : decode cX7_measure 180 = .ok (.iaload, 1) := by decide +kernel
theorem dX7_measure_181 : decode cX7_measure 181 = .ok (.iastore, 1) := by decide +kernel
theorem dX7_measure_182 : decode cX7_measure 182 = .ok (.aload 5, 2) := by decide +kernel
theorem dX7_measure_184 : decode cX7_measure 184 = .ok (.iconst 5, 1) := by decide +kernel
theorem dX7_measure_185 : decode cX7_measure 185 = .ok (.iconst 4, 1) := by decide +kernel
theorem dX7_measure_186 : decode cX7_measure 186 = .ok (.iload 6, 2) := by decide +kernel
theorem dX7_measure_188 : decode cX7_measure 188 = .ok (.imul, 1) := by decide +kernel
theorem dX7_measure_189 : decode cX7_measure 189 = .ok (.iadd, 1) := by decide +kernel
theorem dX7_measure_190 : decode cX7_measure 190 = .ok (.iconst 3, 1) := by decide +kernel
theorem dX7_measure_191 : decode cX7_measure 191 = .ok (.iadd, 1) := by decide +kernel
theorem dX7_measure_192 : decode cX7_measure 192 = .ok (.aload 7, 2) := by decide +kernel
theorem dX7_measure_194 : decode cX7_measure 194 = .ok (.iconst 2, 1) := by decide +kernel
theorem dX7_measure_195 : decode cX7_measure 195 = .ok (.iaload, 1) := by decide +kernel
theorem dX7_measure_196 : decode cX7_measure 196 = .ok (.iastore, 1) := by decide +kernel
theorem dX7_measure_197 : decode cX7_measure 197 = .ok (.iinc 6 1, 3) := by decide +kernel
theorem dX7_measure_200 : decode cX7_measure 200 = .ok (.goto (-110), 3) := by decide +kernel
theorem dX7_measure_203 : decode cX7_measure 203 = .ok (.aload_n 0, 1) := by decide +kernel
theorem dX7_measure_204 : decode cX7_measure 204 = .ok (.getfield 24, 3) := by decide +kernel
theorem dX7_measure_207 : decode cX7_measure 207 = .ok (.aload 5, 2) := by decide +kernel
theorem dX7_measure_209 : decode cX7_measure 209 = .ok (.invokevirtual 121, 3) := by decide +kernel
theorem dX7_measure_212 : decode cX7_measure 212 = .ok (.pop, 1) := by decide +kernel
theorem dX7_measure_213 : decode cX7_measure 213 = .ok (.aload_n 0, 1) := by decide +kernel
theorem dX7_measure_214 : decode cX7_measure 214 = .ok (.getfield 24, 3) := by decide +kernel
theorem dX7_measure_217 : decode cX7_measure 217 = .ok (.invokevirtual 64, 3) := by decide +kernel
theorem dX7_measure_220 : decode cX7_measure 220 = .ok (.iconst 1, 1) := by decide +kernel
theorem dX7_measure_221 : decode cX7_measure 221 = .ok (.isub, 1) := by decide +kernel
theorem dX7_measure_222 : decode cX7_measure 222 = .ok (.ireturn, 1) := by decide +kernel
theorem dX7_align_0 : decode cX7_align 0 = .ok (.aload_n 0, 1) := by decide +kernel
theorem dX7_align_1 : decode cX7_align 1 = .ok (.iconst 0, 1) := by decide +kernel
theorem dX7_align_2 : decode cX7_align 2 = .ok (.putfield 31, 3) := by decide +kernel
theorem dX7_align_5 : decode cX7_align 5 = .ok (.iload_n 1, 1) := by decide +kernel
theorem dX7_align_6 : decode cX7_align 6 = .ok (.iconst 0, 1) := by decide +kernel
theorem dX7_align_7 : decode cX7_align 7 = .ok (.aload_n 0, 1) := by decide +kernel
theorem dX7_align_8 : decode cX7_align 8 = .ok (.getfield 24, 3) := by decide +kernel
theorem dX7_align_11 : decode cX7_align 11 = .ok (.invokevirtual 64, 3) := by decide +kernel
theorem dX7_align_14 : decode cX7_align 14 = .ok (.iconst 1, 1) := by decide +kernel
theorem dX7_align_15 : decode cX7_align 15 = .ok (.isub, 1) := by decide +kernel
theorem dX7_align_16 : decode cX7_align 16 = .ok (.invokestatic 68, 3) := by decide +kernel
theorem dX7_align_19 : decode cX7_align 19 = .ok (.ifCond .ne 9, 3) := by decide +kernel
theorem dX7_align_22 : decode cX7_align 22 = .ok (.aload_n 0, 1) := by decide +kernel
theorem dX7_align_23 : decode cX7_align 23 = .ok (.iconst 1, 1) := by decide +kernel
theorem dX7_align_24 : decode cX7_align 24 = .ok (.invokevirtual 76, 3) := by decide +kernel
theorem dX7_align_27 : decode cX7_align 27 = .ok (.ireturn, 1) := by decide +kernel
theorem dX7_align_28 : decode cX7_align 28 = .ok (.aload_n 0, 1) := by decide +kernel
theorem dX7_align_29 : decode cX7_align 29 = .ok (.getfield 24, 3) := by decide +kernel
theorem dX7_align_32 : decode cX7_align 32 = .ok (.iload_n 1, 1) := by decide +kernel
theorem dX7_align_33 : decode cX7_align 33 = .ok (.invokevirtual 52, 3) := by decide +kernel
theorem dX7_align_36 : decode cX7_align 36 = .ok (.checkcast 56, 3) := by decide +kernel
theorem dX7_align_39 : decode cX7_align 39 = .ok (.astore_n 2, 1) := by decide +kernel
theorem dX7_align_40 : decode cX7_align 40 = .ok (.aload_n 2, 1) := by decide +kernel
theorem dX7_align_41 : decode cX7_align 41 = .ok (.iconst 4, 1) := by decide +kernel
theorem dX7_align_42 : decode cX7_align 42 = .ok (.iaload, 1) := by decide +kernel
theorem dX7_align_43 : decode cX7_align 43 = .ok (.iconst 1, 1) := by decide +kernel
theorem dX7_align_44 : decode cX7_align 44 = .ok (.if_icmp .ne 9, 3) := by decide +kernel
theorem dX7_align_47 : decode cX7_align 47 = .ok (.aload_n 0, 1) := by decide +kernel
theorem dX7_align_48 : decode cX7_align 48 = .ok (.iconst 2, 1) := by decide +kernel
theorem dX7_align_49 : decode cX7_align 49 = .ok (.invokevirtual 76, 3) := by decide +kernel
theorem dX7_align_52 : decode cX7_align 52 = .ok (.ireturn, 1) := by decide +kernel
theorem dX7_align_53 : decode cX7_align 53 = .ok (.aload_n 2, 1) := by decide +kernel
theorem dX7_align_54 : decode cX7_align 54 = .ok (.iconst 4, 1) := by decide +kernel
theorem dX7_align_55 : decode cX7_align 55 = .ok (.iconst 1, 1) := by decide +kernel
theorem dX7_align_56 : decode cX7_align 56 = .ok (.iastore, 1) := by decide +kernel
theorem dX7_align_57 : decode cX7_align 57 = .ok (.aload_n 2, 1) := by decide +kernel
theorem dX7_align_58 : decode cX7_align 58 = .ok (.iconst 3, 1) := by decide +kernel
theorem dX7_align_59 : decode cX7_align 59 = .ok (.iaload, 1) := by decide +kernel
theorem dX7_align_60 : decode cX7_align 60 = .ok (.ireturn, 1) := by decide +kernel
theorem dX7_isMachine_0 : decode cX7_isMachine 0 = .ok (.iload_n 1, 1) := by decide +kernel
theorem dX7_isMachine_1 : decode cX7_isMachine 1 = .ok (.iconst 0, 1) := by decide +kernel
theorem dX7_isMachine_2 : decode cX7_isMachine 2 = .ok (.aload_n 0, 1) := by decide +kernel
theorem dX7_isMachine_3 : decode cX7_isMachine 3 = .ok (.getfield 17, 3) := by decide +kernel
theorem dX7_isMachine_6 : decode cX7_isMachine 6 = .ok (.invokevirtual 64, 3) := by decide +kernel
theorem dX7_isMachine_9 : decode cX7_isMachine 9 = .ok (.iconst 1, 1) := by decide +kernel
theorem dX7_isMachine_10 : decode cX7_isMachine 10 = .ok (.isub, 1) := by decide +kernel
theorem dX7_isMachine_11 : decode cX7_isMachine 11 = .ok (.invokestatic 68, 3) := by decide +kernel
theorem dX7_isMachine_14 : decode cX7_isMachine 14 = .ok (.ireturn, 1) := by decide +kernel
theorem dX7_isNight_0 : decode cX7_isNight 0 = .ok (.iload_n 1, 1) := by decide +kernel
theorem dX7_isNight_1 : decode cX7_isNight 1 = .ok (.iconst 0, 1) := by decide +kernel
theorem dX7_isNight_2 : decode cX7_isNight 2 = .ok (.aload_n 0, 1) := by decide +kernel
theorem dX7_isNight_3 : decode cX7_isNight 3 = .ok (.getfield 21, 3) := by decide +kernel
theorem dX7_isNight_6 : decode cX7_isNight 6 = .ok (.invokevirtual 64, 3) := by decide +kernel
theorem dX7_isNight_9 : decode cX7_isNight 9 = .ok (.iconst 1, 1) := by decide +kernel
theorem dX7_isNight_10 : decode cX7_isNight 10 = .ok (.isub, 1) := by decide +kernel
theorem dX7_isNight_11 : decode cX7_isNight 11 = .ok (.invokestatic 68, 3) := by decide +kernel
theorem dX7_isNight_14 : decode cX7_isNight 14 = .ok (.ireturn, 1) := by decide +kernel
theorem dX7_machine_0 : decode cX7_machine 0 = .ok (.aload_n 0, 1) := by decide +kernel
theorem dX7_machine_1 : decode cX7_machine 1 = .ok (.iconst 0, 1) := by decide +kernel
theorem dX7_machine_2 : decode cX7_machine 2 = .ok (.putfield 31, 3) := by decide +kernel
theorem dX7_machine_5 : decode cX7_machine 5 = .ok (.iload_n 1, 1) := by decide +kernel
theorem dX7_machine_6 : decode cX7_machine 6 = .ok (.iconst 0, 1) := by decide +kernel
theorem dX7_machine_7 : decode cX7_machine 7 = .ok (.iconst 2, 1) := by decide +kernel
theorem dX7_machine_8 : decode cX7_machine 8 = .ok (.invokestatic 68, 3) := by decide +kernel
theorem dX7_machine_11 : decode cX7_machine 11 = .ok (.ifCond .eq 13, 3) := by decide +kernel
theorem dX7_machine_14 : decode cX7_machine 14 = .ok (.iload_n 2, 1) := by decide +kernel
theorem dX7_machine_15 : decode cX7_machine 15 = .ok (.iconst 0, 1) := by decide +kernel
theorem dX7_machine_16 : decode cX7_machine 16 = .ok (.bipush 99, 2) := by decide +kernel
theorem dX7_machine_18 : decode cX7_machine 18 = .ok (.invokestatic 68, 3) := by decide +kernel
theorem dX7_machine_21 : decode cX7_machine 21 = .ok (.ifCond .ne 9, 3) := by decide +kernel
theorem dX7_machine_24 : decode cX7_machine 24 = .ok (.aload_n 0, 1) := by decide +kernel
theorem dX7_machine_25 : decode cX7_machine 25 = .ok (.iconst 1, 1) := by decide +kernel
theorem dX7_machine_26 : decode cX7_machine 26 = .ok (.invokevirtual 76, 3) := by decide +kernel
theorem dX7_machine_29 : decode cX7_machine 29 = .ok (.ireturn, 1) := by decide +kernel
theorem dX7_machine_30 : decode cX7_machine 30 = .ok (.aload_n 0, 1) := by decide +kernel
theorem dX7_machine_31 : decode cX7_machine 31 = .ok (.getfield 17, 3) := by decide +kernel
theorem dX7_machine_34 : decode cX7_machine 34 = .ok (.invokevirtual 64, 3) := by decide +kernel
theorem dX7_machine_37 : decode cX7_machine 37 = .ok (.iconst 4, 1) := by decide +kernel
theorem dX7_machine_38 : decode cX7_machine 38 = .ok (.if_icmp .ne 9, 3) := by decide +kernel
theorem dX7_machine_41 : decode cX7_machine 41 = .ok (.aload_n 0, 1) := by decide +kernel
theorem dX7_machine_42 : decode cX7_machine 42 = .ok (.iconst 2, 1) := by decide +kernel
theorem dX7_machine_43 : decode cX7_machine 43 = .ok (.invokevirtual 76, 3) := by decide +kernel
theorem dX7_machine_46 : decode cX7_machine 46 = .ok (.ireturn, 1) := by decide +kernel
theorem dX7_machine_47 : decode cX7_machine 47 = .ok (.iconst 4, 1) := by decide +kernel
theorem dX7_machine_48 : decode cX7_machine 48 = .ok (.newarray .int, 2) := by decide +kernel
theorem dX7_machine_50 : decode cX7_machine 50 = .ok (.dup, 1) := by decide +kernel
theorem dX7_machine_51 : decode cX7_machine 51 = .ok (.iconst 0, 1) := by decide +kernel
theorem dX7_machine_52 : decode cX7_machine 52 = .ok (.iload_n 1, 1) := by decide +kernel
theorem dX7_machine_53 : decode cX7_machine 53 = .ok (.iastore, 1) := by decide +kernel
theorem dX7_machine_54 : decode cX7_machine 54 = .ok (.dup, 1) := by decide +kernel
theorem dX7_machine_55 : decode cX7_machine 55 = .ok (.iconst 1, 1) := by decide +kernel
theorem dX7_machine_56 : decode cX7_machine 56 = .ok (.iload_n 2, 1) := by decide +kernel
theorem dX7_machine_57 : decode cX7_machine 57 = .ok (.iastore, 1) := by decide +kernel
theorem dX7_machine_58 : decode cX7_machine 58 = .ok (.dup, 1) := by decide +kernel
theorem dX7_machine_59 : decode cX7_machine 59 = .ok (.iconst 2, 1) := by decide +kernel
theorem dX7_machine_60 : decode cX7_machine 60 = .ok (.iconst 0, 1) := by decide +kernel
theorem dX7_machine_61 : decode cX7_machine 61 = .ok (.iastore, 1) := by decide +kernel
theorem dX7_machine_62 : decode cX7_machine 62 = .ok (.dup, 1) := by decide +kernel
theorem dX7_machine_63 : decode cX7_machine 63 = .ok (.iconst 3, 1) := by decide +kernel
theorem dX7_machine_64 : decode cX7_machine 64 = .ok (.iconst 0, 1) := by decide +kernel
theorem dX7_machine_65 : decode cX7_machine 65 = .ok (.iastore, 1) := by decide +kernel
theorem dX7_machine_66 : decode cX7_machine 66 = .ok (.astore_n 3, 1) := by decide +kernel
theorem dX7_machine_67 : decode cX7_machine 67 = .ok (.aload_n 0, 1) := by decide +kernel
theorem dX7_machine_68 : decode cX7_machine 68 = .ok (.getfield 17, 3) := by decide +kernel
theorem dX7_machine_71 : decode cX7_machine 71 = .ok (.aload_n 3, 1) := by decide +kernel
theorem dX7_machine_72 : decode cX7_machine 72 = .ok (.invokevirtual 121, 3) := by decide +kernel
theorem dX7_machine_75 : decode cX7_machine 75 = .ok (.pop, 1) := by decide +kernel
theorem dX7_machine_76 : decode cX7_machine 76 = .ok (.aload_n 0, 1) := by decide +kernel
theorem dX7_machine_77 : decode cX7_machine 77 = .ok (.getfield 17, 3) := by decide +kernel
theorem dX7_machine_80 : decode cX7_machine 80 = .ok (.invokevirtual 64, 3) := by decide +kernel
theorem dX7_machine_83 : decode cX7_machine 83 = .ok (.iconst 1, 1) := by decide +kernel
theorem dX7_machine_84 : decode cX7_machine 84 = .ok (.isub, 1) := by decide +kernel
theorem dX7_machine_85 : decode cX7_machine 85 = .ok (.ireturn, 1) := by decide +kernel
theorem dX7_uses_0 : decode cX7_uses 0 = .ok (.iconst 0, 1) := by decide +kernel
theorem dX7_uses_1 : decode cX7_uses 1 = .ok (.istore_n 2, 1) := by decide +kernel
theorem dX7_uses_2 : decode cX7_uses 2 = .ok (.iconst 0, 1) := by decide +kernel
theorem dX7_uses_3 : decode cX7_uses 3 = .ok (.istore_n 3, 1) := by decide +kernel
theorem dX7_uses_4 : decode cX7_uses 4 = .ok (.iload_n 3, 1) := by decide +kernel
theorem dX7_uses_5 : decode cX7_uses 5 = .ok (.aload_n 0, 1) := by decide +kernel
theorem dX7_uses_6 : decode cX7_uses 6 = .ok (.bipush 6, 2) := by decide +kernel
theorem dX7_uses_8 : decode cX7_uses 8 = .ok (.iaload, 1) := by decide +kernel
theorem dX7_uses_9 : decode cX7_uses 9 = .ok (.if_icmp .ge 31, 3) := by decide +kernel
theorem dX7_uses_12 : decode cX7_uses 12 = .ok (.iload_n 2, 1) := by decide +kernel
theorem dX7_uses_13 : decode cX7_uses 13 = .ok (.aload_n 0, 1) := by decide +kernel
theorem dX7_uses_14 : decode cX7_uses 14 = .ok (.bipush 10, 2) := by decide +kernel
theorem dX7_uses_16 : decode cX7_uses 16 = .ok (.iconst 3, 1) := by decide +kernel
theorem dX7_uses_17 : decode cX7_uses 17 = .ok (.iload_n 3, 1) := by decide +kernel
theorem dX7_uses_18 : decode cX7_uses 18 = .ok (.imul, 1) := by decide +kernel
theorem dX7_uses_19 : decode cX7_uses 19 = .ok (.iadd, 1) := by decide +kernel
theorem dX7_uses_20 : decode cX7_uses 20 = .ok (.iconst 1, 1) := by decide +kernel
theorem dX7_uses_21 : decode cX7_uses 21 = .ok (.iadd, 1) := by decide +kernel
theorem dX7_uses_22 : decode cX7_uses 22 = .ok (.iaload, 1) := by decide +kernel
theorem dX7_uses_23 : decode cX7_uses 23 = .ok (.iload_n 1, 1) := by decide +kernel
theorem dX7_uses_24 : decode cX7_uses 24 = .ok (.if_icmp .ne 7, 3) := by decide +kernel
theorem dX7_uses_27 : decode cX7_uses 27 = .ok (.iconst 1, 1) := by decide +kernel
theorem dX7_uses_28 : decode cX7_uses 28 = .ok (.goto 4, 3) := by decide +kernel
theorem dX7_uses_31 : decode cX7_uses 31 = .ok (.iconst 0, 1) := by decide +kernel
theorem dX7_uses_32 : decode cX7_uses 32 = .ok (.ior, 1) := by decide +kernel
theorem dX7_uses_33 : decode cX7_uses 33 = .ok (.istore_n 2, 1) := by decide +kernel
theorem dX7_uses_34 : decode cX7_uses 34 = .ok (.iinc 3 1, 3) := by decide +kernel
theorem dX7_uses_37 : decode cX7_uses 37 = .ok (.goto (-33), 3) := by decide +kernel
theorem dX7_uses_40 : decode cX7_uses 40 = .ok (.iload_n 2, 1) := by decide +kernel
theorem dX7_uses_41 : decode cX7_uses 41 = .ok (.ireturn, 1) := by decide +kernel
theorem dX7_service_0 : decode cX7_service 0 = .ok (.aload_n 0, 1) := by decide +kernel
theorem dX7_service_1 : decode cX7_service 1 = .ok (.iconst 0, 1) := by decide +kernel
theorem dX7_service_2 : decode cX7_service 2 = .ok (.putfield 31, 3) := by decide +kernel
theorem dX7_service_5 : decode cX7_service 5 = .ok (.aload_n 0, 1) := by decide +kernel
theorem dX7_service_6 : decode cX7_service 6 = .ok (.iload_n 1, 1) := by decide +kernel
theorem dX7_service_7 : decode cX7_service 7 = .ok (.invokevirtual 125, 3) := by decide +kernel
theorem dX7_service_10 : decode cX7_service 10 = .ok (.ifCond .ne 9, 3) := by decide +kernel
theorem dX7_service_13 : decode cX7_service 13 = .ok (.aload_n 0, 1) := by decide +kernel
theorem dX7_service_14 : decode cX7_service 14 = .ok (.iconst 1, 1) := by decide +kernel
theorem dX7_service_15 : decode cX7_service 15 = .ok (.invokevirtual 76, 3) := by decide +kernel
theorem dX7_service_18 : decode cX7_service 18 = .ok (.ireturn, 1) := by decide +kernel
theorem dX7_service_19 : decode cX7_service 19 = .ok (.aload_n 0, 1) := by decide +kernel
theorem dX7_service_20 : decode cX7_service 20 = .ok (.getfield 21, 3) := by decide +kernel
theorem dX7_service_23 : decode cX7_service 23 = .ok (.invokevirtual 79, 3) := by decide +kernel
theorem dX7_service_26 : decode cX7_service 26 = .ok (.astore_n 2, 1) := by decide +kernel
theorem dX7_service_27 : decode cX7_service 27 = .ok (.aload_n 2, 1) := by decide +kernel
theorem dX7_service_28 : decode cX7_service 28 = .ok (.invokeinterface 83 1, 5) := by decide +kernel
theorem dX7_service_33 : decode cX7_service 33 = .ok (.ifCond .eq 37, 3) := by decide +kernel
theorem dX7_service_36 : decode cX7_service 36 = .ok (.aload_n 2, 1) := by decide +kernel
theorem dX7_service_37 : decode cX7_service 37 = .ok (.invokeinterface 89 1, 5) := by decide +kernel
theorem dX7_service_42 : decode cX7_service 42 = .ok (.checkcast 56, 3) := by decide +kernel
theorem dX7_service_45 : decode cX7_service 45 = .ok (.astore_n 3, 1) := by decide +kernel
theorem dX7_service_46 : decode cX7_service 46 = .ok (.aload_n 3, 1) := by decide +kernel
theorem dX7_service_47 : decode cX7_service 47 = .ok (.iconst 0, 1) := by decide +kernel
theorem dX7_service_48 : decode cX7_service 48 = .ok (.iaload, 1) := by decide +kernel
theorem dX7_service_49 : decode cX7_service 49 = .ok (.iconst 1, 1) := by decide +kernel
theorem dX7_service_50 : decode cX7_service 50 = .ok (.if_icmp .ne 17, 3) := by decide +kernel
theorem dX7_service_53 : decode cX7_service 53 = .ok (.aload_n 3, 1) := by decide +kernel
theorem dX7_service_54 : decode cX7_service 54 = .ok (.iload_n 1, 1) := by decide +kernel
theorem dX7_service_55 : decode cX7_service 55 = .ok (.invokestatic 128, 3) := by decide +kernel
theorem dX7_service_58 : decode cX7_service 58 = .ok (.ifCond .eq 9, 3) := by decide +kernel
theorem dX7_service_61 : decode cX7_service 61 = .ok (.aload_n 0, 1) := by decide +kernel
theorem dX7_service_62 : decode cX7_service 62 = .ok (.iconst 2, 1) := by decide +kernel
theorem dX7_service_63 : decode cX7_service 63 = .ok (.invokevirtual 76, 3) := by decide +kernel
theorem dX7_service_66 : decode cX7_service 66 = .ok (.ireturn, 1) := by decide +kernel
theorem dX7_service_67 : decode cX7_service 67 = .ok (.goto (-40), 3) := by decide +kernel
theorem dX7_service_70 : decode cX7_service 70 = .ok (.aload_n 0, 1) := by decide +kernel
theorem dX7_service_71 : decode cX7_service 71 = .ok (.getfield 17, 3) := by decide +kernel
theorem dX7_service_74 : decode cX7_service 74 = .ok (.iload_n 1, 1) := by decide +kernel
theorem dX7_service_75 : decode cX7_service 75 = .ok (.invokevirtual 52, 3) := by decide +kernel
theorem dX7_service_78 : decode cX7_service 78 = .ok (.checkcast 56, 3) := by decide +kernel
theorem dX7_service_81 : decode cX7_service 81 = .ok (.iconst 1, 1) := by decide +kernel
theorem dX7_service_82 : decode cX7_service 82 = .ok (.iaload, 1) := by decide +kernel
theorem dX7_service_83 : decode cX7_service 83 = .ok (.istore_n 2, 1) := by decide +kernel
theorem dX7_service_84 : decode cX7_service 84 = .ok (.aload_n 0, 1) := by decide +kernel
theorem dX7_service_85 : decode cX7_service 85 = .ok (.getfield 17, 3) := by decide +kernel
theorem dX7_service_88 : decode cX7_service 88 = .ok (.iload_n 1, 1) := by decide +kernel
theorem dX7_service_89 : decode cX7_service 89 = .ok (.invokevirtual 52, 3) := by decide +kernel
theorem dX7_service_92 : decode cX7_service 92 = .ok (.checkcast 56, 3) := by decide +kernel
theorem dX7_service_95 : decode cX7_service 95 = .ok (.iconst 1, 1) := by decide +kernel
theorem dX7_service_96 : decode cX7_service 96 = .ok (.bipush 40, 2) := by decide +kernel
theorem dX7_service_98 : decode cX7_service 98 = .ok (.iastore, 1) := by decide +kernel
theorem dX7_service_99 : decode cX7_service 99 = .ok (.aload_n 0, 1) := by decide +kernel
theorem dX7_service_100 : decode cX7_service 100 = .ok (.dup, 1) := by decide +kernel
theorem dX7_service_101 : decode cX7_service 101 = .ok (.getfield 103, 3) := by decide +kernel
theorem dX7_service_104 : decode cX7_service 104 = .ok (.sipush 200, 3) := by decide +kernel
theorem dX7_service_107 : decode cX7_service 107 = .ok (.iadd, 1) := by decide +kernel
theorem dX7_service_108 : decode cX7_service 108 = .ok (.putfield 103, 3) := by decide +kernel
theorem dX7_service_111 : decode cX7_service 111 = .ok (.iload_n 2, 1) := by decide +kernel
theorem dX7_service_112 : decode cX7_service 112 = .ok (.ireturn, 1) := by decide +kernel
theorem dX7_isFree_0 : decode cX7_isFree 0 = .ok (.aload_n 0, 1) := by decide +kernel
theorem dX7_isFree_1 : decode cX7_isFree 1 = .ok (.getfield 21, 3) := by decide +kernel
theorem dX7_isFree_4 : decode cX7_isFree 4 = .ok (.invokevirtual 79, 3) := by decide +kernel
theorem dX7_isFree_7 : decode cX7_isFree 7 = .ok (.astore 5, 2) := by decide +kernel
theorem dX7_isFree_9 : decode cX7_isFree 9 = .ok (.aload 5, 2) := by decide +kernel
theorem dX7_isFree_11 : decode cX7_isFree 11 = .ok (.invokeinterface 83 1, 5) := by decide +kernel
theorem dX7_isFree_16 : decode cX7_isFree 16 = .ok (.ifCond .eq 61, 3) := by decide +kernel
theorem dX7_isFree_19 : decode cX7_isFree 19 = .ok (.aload 5, 2) := by decide +kernel
theorem dX7_isFree_21 : decode cX7_isFree 21 = .ok (.invokeinterface 89 1, 5) := by decide +kernel
theorem dX7_isFree_26 : decode cX7_isFree 26 = .ok (.checkcast 56, 3) := by decide +kernel
theorem dX7_isFree_29 : decode cX7_isFree 29 = .ok (.astore 6, 2) := by decide +kernel
theorem dX7_isFree_31 : decode cX7_isFree 31 = .ok (.aload 6, 2) := by decide +kernel
theorem dX7_isFree_33 : decode cX7_isFree 33 = .ok (.iconst 4, 1) := by decide +kernel
theorem dX7_isFree_34 : decode cX7_isFree 34 = .ok (.iaload, 1) := by decide +kernel
theorem dX7_isFree_35 : decode cX7_isFree 35 = .ok (.iload 4, 2) := by decide +kernel
theorem dX7_isFree_37 : decode cX7_isFree 37 = .ok (.if_icmp .ne 37, 3) := by decide +kernel
theorem dX7_isFree_40 : decode cX7_isFree 40 = .ok (.aload 6, 2) := by decide +kernel
theorem dX7_isFree_42 : decode cX7_isFree 42 = .ok (.iconst 0, 1) := by decide +kernel
theorem dX7_isFree_43 : decode cX7_isFree 43 = .ok (.iaload, 1) := by decide +kernel
theorem dX7_isFree_44 : decode cX7_isFree 44 = .ok (.iconst 4, 1) := by decide +kernel
theorem dX7_isFree_45 : decode cX7_isFree 45 = .ok (.if_icmp .eq 29, 3) := by decide +kernel
theorem dX7_isFree_48 : decode cX7_isFree 48 = .ok (.aload 6, 2) := by decide +kernel
theorem dX7_isFree_50 : decode cX7_isFree 50 = .ok (.iconst 1, 1) := by decide +kernel
theorem dX7_isFree_51 : decode cX7_isFree 51 = .ok (.iaload, 1) := by decide +kernel
theorem dX7_isFree_52 : decode cX7_isFree 52 = .ok (.iload_n 1, 1) := by decide +kernel
theorem dX7_isFree_53 : decode cX7_isFree 53 = .ok (.if_icmp .ne 21, 3) := by decide +kernel
theorem dX7_isFree_56 : decode cX7_isFree 56 = .ok (.aload 6, 2) := by decide +kernel
theorem dX7_isFree_58 : decode cX7_isFree 58 = .ok (.iconst 2, 1) := by decide +kernel
theorem dX7_isFree_59 : decode cX7_isFree 59 = .ok (.iaload, 1) := by decide +kernel
theorem dX7_isFree_60 : decode cX7_isFree 60 = .ok (.iload_n 3, 1) := by decide +kernel
theorem dX7_isFree_61 : decode cX7_isFree 61 = .ok (.if_icmp .gt 13, 3) := by decide +kernel
theorem dX7_isFree_64 : decode cX7_isFree 64 = .ok (.aload 6, 2) := by decide +kernel
theorem dX7_isFree_66 : decode cX7_isFree 66 = .ok (.iconst 3, 1) := by decide +kernel
theorem dX7_isFree_67 : decode cX7_isFree 67 = .ok (.iaload, 1) := by decide +kernel
theorem dX7_isFree_68 : decode cX7_isFree 68 = .ok (.iload_n 2, 1) := by decide +kernel
theorem dX7_isFree_69 : decode cX7_isFree 69 = .ok (.if_icmp .lt 5, 3) := by decide +kernel
theorem dX7_isFree_72 : decode cX7_isFree 72 = .ok (.iconst 0, 1) := by decide +kernel
theorem dX7_isFree_73 : decode cX7_isFree 73 = .ok (.ireturn, 1) := by decide +kernel
theorem dX7_isFree_74 : decode cX7_isFree 74 = .ok (.goto (-65), 3) := by decide +kernel
theorem dX7_isFree_77 : decode cX7_isFree 77 = .ok (.iconst 1, 1) := by decide +kernel
theorem dX7_isFree_78 : decode cX7_isFree 78 = .ok (.ireturn, 1) := by decide +kernel
theorem dX7_book_0 : decode cX7_book 0 = .ok (.aload_n 0, 1) := by decide +kernel
theorem dX7_book_1 : decode cX7_book 1 = .ok (.iconst 0, 1) := by decide +kernel
theorem dX7_book_2 : decode cX7_book 2 = .ok (.putfield 31, 3) := by decide +kernel
theorem dX7_book_5 : decode cX7_book 5 = .ok (.iload_n 1, 1) := by decide +kernel
theorem dX7_book_6 : decode cX7_book 6 = .ok (.iload_n 2, 1) := by decide +kernel
theorem dX7_book_7 : decode cX7_book 7 = .ok (.iload_n 3, 1) := by decide +kernel
theorem dX7_book_8 : decode cX7_book 8 = .ok (.invokestatic 118, 3) := by decide +kernel
theorem dX7_book_11 : decode cX7_book 11 = .ok (.ifCond .ne 9, 3) := by decide +kernel
theorem dX7_book_14 : decode cX7_book 14 = .ok (.aload_n 0, 1) := by decide +kernel
theorem dX7_book_15 : decode cX7_book 15 = .ok (.iconst 1, 1) := by decide +kernel
theorem dX7_book_16 : decode cX7_book 16 = .ok (.invokevirtual 76, 3) := by decide +kernel
theorem dX7_book_19 : decode cX7_book 19 = .ok (.ireturn, 1) := by decide +kernel
theorem dX7_book_20 : decode cX7_book 20 = .ok (.iload_n 3, 1) := by decide +kernel
theorem dX7_book_21 : decode cX7_book 21 = .ok (.iload_n 2, 1) := by decide +kernel
theorem dX7_book_22 : decode cX7_book 22 = .ok (.if_icmp .lt 33, 3) := by decide +kernel
theorem dX7_book_25 : decode cX7_book 25 = .ok (.iload 4, 2) := by decide +kernel
theorem dX7_book_27 : decode cX7_book 27 = .ok (.aload_n 0, 1) := by decide +kernel
theorem dX7_book_28 : decode cX7_book 28 = .ok (.getfield 93, 3) := by decide +kernel
theorem dX7_book_31 : decode cX7_book 31 = .ok (.iconst 5, 1) := by decide +kernel
theorem dX7_book_32 : decode cX7_book 32 = .ok (.iadd, 1) := by decide +kernel
theorem dX7_book_33 : decode cX7_book 33 = .ok (.if_icmp .lt 22, 3) := by decide +kernel
theorem dX7_book_36 : decode cX7_book 36 = .ok (.iload 4, 2) := by decide +kernel
theorem dX7_book_38 : decode cX7_book 38 = .ok (.sipush 2000, 3) := by decide +kernel
theorem dX7_book_41 : decode cX7_book 41 = .ok (.if_icmp .gt 14, 3) := by decide +kernel
theorem dX7_book_44 : decode cX7_book 44 = .ok (.iload 5, 2) := by decide +kernel
theorem dX7_book_46 : decode cX7_book 46 = .ok (.iconst 2, 1) := by decide +kernel
theorem dX7_book_47 : decode cX7_book 47 = .ok (.bipush 8, 2) := by decide +kernel
theorem dX7_book_49 : decode cX7_book 49 = .ok (.invokestatic 68, 3) := by decide +kernel
theorem dX7_book_52 : decode cX7_book 52 = .ok (.ifCond .ne 9, 3) := by decide +kernel
theorem dX7_book_55 : decode cX7_book 55 = .ok (.aload_n 0, 1) := by decide +kernel
theorem dX7_book_56 : decode cX7_book 56 = .ok (.iconst 2, 1) := by decide +kernel
theorem dX7_book_57 : decode cX7_book 57 = .ok (.invokevirtual 76, 3) := by decide +kernel
theorem dX7_book_60 : decode cX7_book 60 = .ok (.ireturn, 1) := by decide +kernel
theorem dX7_book_61 : decode cX7_book 61 = .ok (.aload_n 0, 1) := by decide +kernel
theorem dX7_book_62 : decode cX7_book 62 = .ok (.getfield 21, 3) := by decide +kernel
theorem dX7_book_65 : decode cX7_book 65 = .ok (.invokevirtual 64, 3) := by decide +kernel
theorem dX7_book_68 : decode cX7_book 68 = .ok (.bipush 16, 2) := by decide +kernel
theorem dX7_book_70 : decode cX7_book 70 = .ok (.if_icmp .eq 15, 3) := by decide +kernel
theorem dX7_book_73 : decode cX7_book 73 = .ok (.aload_n 0, 1) := by decide +kernel
theorem dX7_book_74 : decode cX7_book 74 = .ok (.iload_n 1, 1) := by decide +kernel
theorem dX7_book_75 : decode cX7_book 75 = .ok (.iload_n 2, 1) := by decide +kernel
theorem dX7_book_76 : decode cX7_book 76 = .ok (.iload_n 3, 1) := by decide +kernel
theorem dX7_book_77 : decode cX7_book 77 = .ok (.iload 4, 2) := by decide +kernel
theorem dX7_book_79 : decode cX7_book 79 = .ok (.invokevirtual 132, 3) := by decide +kernel
theorem dX7_book_82 : decode cX7_book 82 = .ok (.ifCond .ne 9, 3) := by decide +kernel
theorem dX7_book_85 : decode cX7_book 85 = .ok (.aload_n 0, 1) := by decide +kernel
theorem dX7_book_86 : decode cX7_book 86 = .ok (.iconst 3, 1) := by decide +kernel
theorem dX7_book_87 : decode cX7_book 87 = .ok (.invokevirtual 76, 3) := by decide +kernel
theorem dX7_book_90 : decode cX7_book 90 = .ok (.ireturn, 1) := by decide +kernel
theorem dX7_book_91 : decode cX7_book 91 = .ok (.bipush 28, 2) := by decide +kernel
theorem dX7_book_93 : decode cX7_book 93 = .ok (.newarray .int, 2) := by decide +kernel
theorem dX7_book_95 : decode cX7_book 95 = .ok (.astore 6, 2) := by decide +kernel
theorem dX7_book_97 : decode cX7_book 97 = .ok (.aload 6, 2) := by decide +kernel
theorem dX7_book_99 : decode cX7_book 99 = .ok (.iconst 1, 1) := by decide +kernel
theorem dX7_book_100 : decode cX7_book 100 = .ok (.iload_n 1, 1) := by decide +kernel
theorem dX7_book_101 : decode cX7_book 101 = .ok (.iastore, 1) := by decide +kernel
theorem dX7_book_102 : decode cX7_book 102 = .ok (.aload 6, 2) := by decide +kernel
theorem dX7_book_104 : decode cX7_book 104 = .ok (.iconst 2, 1) := by decide +kernel
theorem dX7_book_105 : decode cX7_book 105 = .ok (.iload_n 2, 1) := by decide +kernel
theorem dX7_book_106 : decode cX7_book 106 = .ok (.iastore, 1) := by decide +kernel
theorem dX7_book_107 : decode cX7_book 107 = .ok (.aload 6, 2) := by decide +kernel
theorem dX7_book_109 : decode cX7_book 109 = .ok (.iconst 3, 1) := by decide +kernel
theorem dX7_book_110 : decode cX7_book 110 = .ok (.iload_n 3, 1) := by decide +kernel
theorem dX7_book_111 : decode cX7_book 111 = .ok (.iastore, 1) := by decide +kernel
theorem dX7_book_112 : decode cX7_book 112 = .ok (.aload 6, 2) := by decide +kernel
theorem dX7_book_114 : decode cX7_book 114 = .ok (.iconst 4, 1) := by decide +kernel
theorem dX7_book_115 : decode cX7_book 115 = .ok (.iload 4, 2) := by decide +kernel
theorem dX7_book_117 : decode cX7_book 117 = .ok (.iastore, 1) := by decide +kernel
theorem dX7_book_118 : decode cX7_book 118 = .ok (.aload 6, 2) := by decide +kernel
theorem dX7_book_120 : decode cX7_book 120 = .ok (.iconst 5, 1) := by decide +kernel
theorem dX7_book_121 : decode cX7_book 121 = .ok (.iload 5, 2) := by decide +kernel
theorem dX7_book_123 : decode cX7_book 123 = .ok (.iastore, 1) := by decide +kernel
theorem dX7_book_124 : decode cX7_book 124 = .ok (.aload_n 0, 1) := by decide +kernel
theorem dX7_book_125 : decode cX7_book 125 = .ok (.getfield 21, 3) := by decide +kernel
theorem dX7_book_128 : decode cX7_book 128 = .ok (.aload 6, 2) := by decide +kernel
theorem dX7_book_130 : decode cX7_book 130 = .ok (.invokevirtual 121, 3) := by decide +kernel
theorem dX7_book_133 : decode cX7_book 133 = .ok (.pop, 1) := by decide +kernel
theorem dX7_book_134 : decode cX7_book 134 = .ok (.aload_n 0, 1) := by decide +kernel
theorem dX7_book_135 : decode cX7_book 135 = .ok (.getfield 21, 3) := by decide +kernel
theorem dX7_book_138 : decode cX7_book 138 = .ok (.invokevirtual 64, 3) := by decide +kernel
theorem dX7_book_141 : decode cX7_book 141 = .ok (.iconst 1, 1) := by decide +kernel
theorem dX7_book_142 : decode cX7_book 142 = .ok (.isub, 1) := by decide +kernel
theorem dX7_book_143 : decode cX7_book 143 = .ok (.ireturn, 1) := by decide +kernel
theorem dX7_has_0 : decode cX7_has 0 = .ok (.aload_n 1, 1) := by decide +kernel
theorem dX7_has_1 : decode cX7_has 1 = .ok (.iconst 1, 1) := by decide +kernel
theorem dX7_has_2 : decode cX7_has 2 = .ok (.iaload, 1) := by decide +kernel
theorem dX7_has_3 : decode cX7_has 3 = .ok (.iload_n 2, 1) := by decide +kernel
theorem dX7_has_4 : decode cX7_has 4 = .ok (.bipush 10, 2) := by decide +kernel
theorem dX7_has_6 : decode cX7_has 6 = .ok (.idiv, 1) := by decide +kernel
theorem dX7_has_7 : decode cX7_has 7 = .ok (.if_icmp .ne 23, 3) := by decide +kernel
theorem dX7_has_10 : decode cX7_has 10 = .ok (.iload_n 2, 1) := by decide +kernel
theorem dX7_has_11 : decode cX7_has 11 = .ok (.bipush 10, 2) := by decide +kernel
theorem dX7_has_13 : decode cX7_has 13 = .ok (.irem, 1) := by decide +kernel
theorem dX7_has_14 : decode cX7_has 14 = .ok (.aload_n 1, 1) := by decide +kernel
theorem dX7_has_15 : decode cX7_has 15 = .ok (.iconst 2, 1) := by decide +kernel
theorem dX7_has_16 : decode cX7_has 16 = .ok (.iaload, 1) := by decide +kernel
theorem dX7_has_17 : decode cX7_has 17 = .ok (.aload_n 1, 1) := by decide +kernel
theorem dX7_has_18 : decode cX7_has 18 = .ok (.iconst 3, 1) := by decide +kernel
theorem dX7_has_19 : decode cX7_has 19 = .ok (.iaload, 1) := by decide +kernel
theorem dX7_has_20 : decode cX7_has 20 = .ok (.invokestatic 68, 3) := by decide +kernel
theorem dX7_has_23 : decode cX7_has 23 = .ok (.ifCond .eq 7, 3) := by decide +kernel
theorem dX7_has_26 : decode cX7_has 26 = .ok (.iconst 1, 1) := by decide +kernel
theorem dX7_has_27 : decode cX7_has 27 = .ok (.goto 4, 3) := by decide +kernel
theorem dX7_has_30 : decode cX7_has 30 = .ok (.iconst 0, 1) := by decide +kernel
theorem dX7_has_31 : decode cX7_has 31 = .ok (.ireturn, 1) := by decide +kernel
theorem dX7_hours_0 : decode cX7_hours 0 = .ok (.iconst 1, 1) := by decide +kernel
theorem dX7_hours_1 : decode cX7_hours 1 = .ok (.iload_n 1, 1) := by decide +kernel
theorem dX7_hours_2 : decode cX7_hours 2 = .ok (.ishl, 1) := by decide +kernel
theorem dX7_hours_3 : decode cX7_hours 3 = .ok (.aload_n 0, 1) := by decide +kernel
theorem dX7_hours_4 : decode cX7_hours 4 = .ok (.getfield 11, 3) := by decide +kernel
theorem dX7_hours_7 : decode cX7_hours 7 = .ok (.iload_n 2, 1) := by decide +kernel
theorem dX7_hours_8 : decode cX7_hours 8 = .ok (.aaload, 1) := by decide +kernel
theorem dX7_hours_9 : decode cX7_hours 9 = .ok (.iconst 5, 1) := by decide +kernel
theorem dX7_hours_10 : decode cX7_hours 10 = .ok (.iaload, 1) := by decide +kernel
theorem dX7_hours_11 : decode cX7_hours 11 = .ok (.iadd, 1) := by decide +kernel
theorem dX7_hours_12 : decode cX7_hours 12 = .ok (.ireturn, 1) := by decide +kernel
theorem dX7_work_0 : decode cX7_work 0 = .ok (.aload_n 0, 1) := by decide +kernel
theorem dX7_work_1 : decode cX7_work 1 = .ok (.iconst 0, 1) := by decide +kernel
theorem dX7_work_2 : decode cX7_work 2 = .ok (.putfield 31, 3) := by decide +kernel
theorem dX7_work_5 : decode cX7_work 5 = .ok (.aload_n 0, 1) := by decide +kernel
theorem dX7_work_6 : decode cX7_work 6 = .ok (.iload_n 1, 1) := by decide +kernel
theorem dX7_work_7 : decode cX7_work 7 = .ok (.invokevirtual 136, 3) := by decide +kernel
theorem dX7_work_10 : decode cX7_work 10 = .ok (.ifCond .eq 18, 3) := by decide +kernel
theorem dX7_work_13 : decode cX7_work 13 = .ok (.aload_n 0, 1) := by decide +kernel
theorem dX7_work_14 : decode cX7_work 14 = .ok (.iload_n 3, 1) := by decide +kernel
theorem dX7_work_15 : decode cX7_work 15 = .ok (.invokevirtual 125, 3) := by decide +kernel
theorem dX7_work_18 : decode cX7_work 18 = .ok (.ifCond .eq 10, 3) := by decide +kernel
theorem dX7_work_21 : decode cX7_work 21 = .ok (.iload_n 2, 1) := by decide +kernel
theorem dX7_work_22 : decode cX7_work 22 = .ok (.invokestatic 72, 3) := by decide +kernel
theorem dX7_work_25 : decode cX7_work 25 = .ok (.ifCond .ne 9, 3) := by decide +kernel
theorem dX7_work_28 : decode cX7_work 28 = .ok (.aload_n 0, 1) := by decide +kernel
theorem dX7_work_29 : decode cX7_work 29 = .ok (.iconst 1, 1) := by decide +kernel
theorem dX7_work_30 : decode cX7_work 30 = .ok (.invokevirtual 76, 3) := by decide +kernel
theorem dX7_work_33 : decode cX7_work 33 = .ok (.ireturn, 1) := by decide +kernel
theorem dX7_work_34 : decode cX7_work 34 = .ok (.aload_n 0, 1) := by decide +kernel
theorem dX7_work_35 : decode cX7_work 35 = .ok (.getfield 21, 3) := by decide +kernel
theorem dX7_work_38 : decode cX7_work 38 = .ok (.iload_n 1, 1) := by decide +kernel
theorem dX7_work_39 : decode cX7_work 39 = .ok (.invokevirtual 52, 3) := by decide +kernel
theorem dX7_work_42 : decode cX7_work 42 = .ok (.checkcast 56, 3) := by decide +kernel
theorem dX7_work_45 : decode cX7_work 45 = .ok (.astore 4, 2) := by decide +kernel
theorem dX7_work_47 : decode cX7_work 47 = .ok (.aload_n 0, 1) := by decide +kernel
theorem dX7_work_48 : decode cX7_work 48 = .ok (.aload 4, 2) := by decide +kernel
theorem dX7_work_50 : decode cX7_work 50 = .ok (.iload_n 2, 1) := by decide +kernel
theorem dX7_work_51 : decode cX7_work 51 = .ok (.invokevirtual 139, 3) := by decide +kernel
theorem dX7_work_54 : decode cX7_work 54 = .ok (.ifCond .ne 9, 3) := by decide +kernel
theorem dX7_work_57 : decode cX7_work 57 = .ok (.aload_n 0, 1) := by decide +kernel
theorem dX7_work_58 : decode cX7_work 58 = .ok (.iconst 2, 1) := by decide +kernel
theorem dX7_work_59 : decode cX7_work 59 = .ok (.invokevirtual 76, 3) := by decide +kernel
theorem dX7_work_62 : decode cX7_work 62 = .ok (.ireturn, 1) := by decide +kernel
theorem dX7_work_63 : decode cX7_work 63 = .ok (.aload_n 0, 1) := by decide +kernel
theorem dX7_work_64 : decode cX7_work 64 = .ok (.aload_n 0, 1) := by decide +kernel
theorem dX7_work_65 : decode cX7_work 65 = .ok (.getfield 17, 3) := by decide +kernel
theorem dX7_work_68 : decode cX7_work 68 = .ok (.iload_n 3, 1) := by decide +kernel
theorem dX7_work_69 : decode cX7_work 69 = .ok (.invokevirtual 52, 3) := by decide +kernel
theorem dX7_work_72 : decode cX7_work 72 = .ok (.checkcast 56, 3) := by decide +kernel
theorem dX7_work_75 : decode cX7_work 75 = .ok (.iconst 0, 1) := by decide +kernel
theorem dX7_work_76 : decode cX7_work 76 = .ok (.iaload, 1) := by decide +kernel
theorem dX7_work_77 : decode cX7_work 77 = .ok (.iload_n 2, 1) := by decide +kernel
theorem dX7_work_78 : decode cX7_work 78 = .ok (.invokevirtual 142, 3) := by decide +kernel
theorem dX7_work_81 : decode cX7_work 81 = .ok (.istore 5, 2) := by decide +kernel
theorem dX7_work_83 : decode cX7_work 83 = .ok (.aload 4, 2) := by decide +kernel
theorem dX7_work_85 : decode cX7_work 85 = .ok (.iconst 0, 1) := by decide +kernel
theorem dX7_work_86 : decode cX7_work 86 = .ok (.iaload, 1) := by decide +kernel
theorem dX7_work_87 : decode cX7_work 87 = .ok (.ifCond .ne 28, 3) := by decide +kernel
theorem dX7_work_90 : decode cX7_work 90 = .ok (.aload 4, 2) := by decide +kernel
theorem dX7_work_92 : decode cX7_work 92 = .ok (.bipush 6, 2) := by decide +kernel
theorem dX7_work_94 : decode cX7_work 94 = .ok (.iaload, 1) := by decide +kernel
theorem dX7_work_95 : decode cX7_work 95 = .ok (.bipush 6, 2) := by decide +kernel
theorem dX7_work_97 : decode cX7_work 97 = .ok (.if_icmp .eq 18, 3) := by decide +kernel
theorem dX7_work_100 : decode cX7_work 100 = .ok (.aload 4, 2) := by decide +kernel
theorem dX7_work_102 : decode cX7_work 102 = .ok (.bipush 7, 2) := by decide +kernel
theorem dX7_work_104 : decode cX7_work 104 = .ok (.iaload, 1) := by decide +kernel
theorem dX7_work_105 : decode cX7_work 105 = .ok (.iload 5, 2) := by decide +kernel
theorem dX7_work_107 : decode cX7_work 107 = .ok (.iadd, 1) := by decide +kernel
theorem dX7_work_108 : decode cX7_work 108 = .ok (.aload 4, 2) := by decide +kernel
theorem dX7_work_110 : decode cX7_work 110 = .ok (.iconst 5, 1) := by decide +kernel
theorem dX7_work_111 : decode cX7_work 111 = .ok (.iaload, 1) := by decide +kernel
theorem dX7_work_112 : decode cX7_work 112 = .ok (.if_icmp .le 9, 3) := by decide +kernel
theorem dX7_work_115 : decode cX7_work 115 = .ok (.aload_n 0, 1) := by decide +kernel
theorem dX7_work_116 : decode cX7_work 116 = .ok (.iconst 3, 1) := by decide +kernel
theorem dX7_work_117 : decode cX7_work 117 = .ok (.invokevirtual 76, 3) := by decide +kernel
theorem dX7_work_120 : decode cX7_work 120 = .ok (.ireturn, 1) := by decide +kernel
theorem dX7_work_121 : decode cX7_work 121 = .ok (.aload_n 0, 1) := by decide +kernel
theorem dX7_work_122 : decode cX7_work 122 = .ok (.getfield 21, 3) := by decide +kernel
theorem dX7_work_125 : decode cX7_work 125 = .ok (.invokevirtual 79, 3) := by decide +kernel
theorem dX7_work_128 : decode cX7_work 128 = .ok (.astore 6, 2) := by decide +kernel
theorem dX7_work_130 : decode cX7_work 130 = .ok (.aload 6, 2) := by decide +kernel
theorem dX7_work_132 : decode cX7_work 132 = .ok (.invokeinterface 83 1, 5) := by decide +kernel
theorem dX7_work_137 : decode cX7_work 137 = .ok (.ifCond .eq 59, 3) := by decide +kernel
theorem dX7_work_140 : decode cX7_work 140 = .ok (.aload 6, 2) := by decide +kernel
theorem dX7_work_142 : decode cX7_work 142 = .ok (.invokeinterface 89 1, 5) := by decide +kernel
theorem dX7_work_147 : decode cX7_work 147 = .ok (.checkcast 56, 3) := by decide +kernel
theorem dX7_work_150 : decode cX7_work 150 = .ok (.astore 7, 2) := by decide +kernel
theorem dX7_work_152 : decode cX7_work 152 = .ok (.aload 7, 2) := by decide +kernel
theorem dX7_work_154 : decode cX7_work 154 = .ok (.aload 4, 2) := by decide +kernel
theorem dX7_work_156 : decode cX7_work 156 = .ok (.if_acmp .eq 37, 3) := by decide +kernel
theorem dX7_work_159 : decode cX7_work 159 = .ok (.aload 7, 2) := by decide +kernel
theorem dX7_work_161 : decode cX7_work 161 = .ok (.iconst 4, 1) := by decide +kernel
theorem dX7_work_162 : decode cX7_work 162 = .ok (.iaload, 1) := by decide +kernel
theorem dX7_work_163 : decode cX7_work 163 = .ok (.aload 4, 2) := by decide +kernel
theorem dX7_work_165 : decode cX7_work 165 = .ok (.iconst 4, 1) := by decide +kernel
theorem dX7_work_166 : decode cX7_work 166 = .ok (.iaload, 1) := by decide +kernel
theorem dX7_work_167 : decode cX7_work 167 = .ok (.if_icmp .ne 26, 3) := by decide +kernel
theorem dX7_work_170 : decode cX7_work 170 = .ok (.aload 7, 2) := by decide +kernel
theorem dX7_work_172 : decode cX7_work 172 = .ok (.iconst 0, 1) := by decide +kernel
theorem dX7_work_173 : decode cX7_work 173 = .ok (.iaload, 1) := by decide +kernel
theorem dX7_work_174 : decode cX7_work 174 = .ok (.iconst 1, 1) := by decide +kernel
theorem dX7_work_175 : decode cX7_work 175 = .ok (.if_icmp .gt 18, 3) := by decide +kernel
theorem dX7_work_178 : decode cX7_work 178 = .ok (.aload 7, 2) := by decide +kernel
theorem dX7_work_180 : decode cX7_work 180 = .ok (.iload_n 3, 1) := by decide +kernel
theorem dX7_work_181 : decode cX7_work 181 = .ok (.invokestatic 128, 3) := by decide +kernel
theorem dX7_work_184 : decode cX7_work 184 = .ok (.ifCond .eq 9, 3) := by decide +kernel
theorem dX7_work_187 : decode cX7_work 187 = .ok (.aload_n 0, 1) := by decide +kernel
theorem dX7_work_188 : decode cX7_work 188 = .ok (.iconst 3, 1) := by decide +kernel
theorem dX7_work_189 : decode cX7_work 189 = .ok (.invokevirtual 76, 3) := by decide +kernel
theorem dX7_work_192 : decode cX7_work 192 = .ok (.ireturn, 1) := by decide +kernel
theorem dX7_work_193 : decode cX7_work 193 = .ok (.goto (-63), 3) := by decide +kernel
theorem dX7_work_196 : decode cX7_work 196 = .ok (.bipush 10, 2) := by decide +kernel
theorem dX7_work_198 : decode cX7_work 198 = .ok (.iconst 3, 1) := by decide +kernel
theorem dX7_work_199 : decode cX7_work 199 = .ok (.aload 4, 2) := by decide +kernel
theorem dX7_work_201 : decode cX7_work 201 = .ok (.bipush 6, 2) := by decide +kernel
theorem dX7_work_203 : decode cX7_work 203 = .ok (.iaload, 1) := by decide +kernel
theorem dX7_work_204 : decode cX7_work 204 = .ok (.imul, 1) := by decide +kernel
theorem dX7_work_205 : decode cX7_work 205 = .ok (.iadd, 1) := by decide +kernel
theorem dX7_work_206 : decode cX7_work 206 = .ok (.istore 6, 2) := by decide +kernel
theorem dX7_work_208 : decode cX7_work 208 = .ok (.aload 4, 2) := by decide +kernel
theorem dX7_work_210 : decode cX7_work 210 = .ok (.iload 6, 2) := by decide +kernel
theorem dX7_work_212 : decode cX7_work 212 = .ok (.iload_n 2, 1) := by decide +kernel
theorem dX7_work_213 : decode cX7_work 213 = .ok (.iastore, 1) := by decide +kernel
theorem dX7_work_214 : decode cX7_work 214 = .ok (.aload 4, 2) := by decide +kernel
theorem dX7_work_216 : decode cX7_work 216 = .ok (.iload 6, 2) := by decide +kernel
theorem dX7_work_218 : decode cX7_work 218 = .ok (.iconst 1, 1) := by decide +kernel
theorem dX7_work_219 : decode cX7_work 219 = .ok (.iadd, 1) := by decide +kernel
theorem dX7_work_220 : decode cX7_work 220 = .ok (.iload_n 3, 1) := by decide +kernel
theorem dX7_work_221 : decode cX7_work 221 = .ok (.iastore, 1) := by decide +kernel
theorem dX7_work_222 : decode cX7_work 222 = .ok (.aload 4, 2) := by decide +kernel
theorem dX7_work_224 : decode cX7_work 224 = .ok (.iload 6, 2) := by decide +kernel
theorem dX7_work_226 : decode cX7_work 226 = .ok (.iconst 2, 1) := by decide +kernel
theorem dX7_work_227 : decode cX7_work 227 = .ok (.iadd, 1) := by decide +kernel
theorem dX7_work_228 : decode cX7_work 228 = .ok (.iload 5, 2) := by decide +kernel
theorem dX7_work_230 : decode cX7_work 230 = .ok (.iastore, 1) := by decide +kernel
theorem dX7_work_231 : decode cX7_work 231 = .ok (.aload 4, 2) := by decide +kernel
theorem dX7_work_233 : decode cX7_work 233 = .ok (.bipush 6, 2) := by decide +kernel
theorem dX7_work_235 : decode cX7_work 235 = .ok (.dup2, 1) := by decide +kernel
theorem dX7_work_236 : decode cX7_work 236 = .ok (.iaload, 1) := by decide +kernel
theorem dX7_work_237 : decode cX7_work 237 = .ok (.iconst 1, 1) := by decide +kernel
theorem dX7_work_238 : decode cX7_work 238 = .ok (.iadd, 1) := by decide +kernel
theorem dX7_work_239 : decode cX7_work 239 = .ok (.iastore, 1) := by decide +kernel
theorem dX7_work_240 : decode cX7_work 240 = .ok (.aload 4, 2) := by decide +kernel
theorem dX7_work_242 : decode cX7_work 242 = .ok (.bipush 7, 2) := by decide +kernel
theorem dX7_work_244 : decode cX7_work 244 = .ok (.dup2, 1) := by decide +kernel
theorem dX7_work_245 : decode cX7_work 245 = .ok (.iaload, 1) := by decide +kernel
theorem dX7_work_246 : decode cX7_work 246 = .ok (.iload 5, 2) := by decide +kernel
theorem dX7_work_248 : decode cX7_work 248 = .ok (.iadd, 1) := by decide +kernel
theorem dX7_work_249 : decode cX7_work 249 = .ok (.iastore, 1) := by decide +kernel
theorem dX7_work_250 : decode cX7_work 250 = .ok (.aload 4, 2) := by decide +kernel
theorem dX7_work_252 : decode cX7_work 252 = .ok (.bipush 7, 2) := by decide +kernel
theorem dX7_work_254 : decode cX7_work 254 = .ok (.iaload, 1) := by decide +kernel
theorem dX7_work_255 : decode cX7_work 255 = .ok (.ireturn, 1) := by decide +kernel
theorem dX7_cancel_0 : decode cX7_cancel 0 = .ok (.aload_n 0, 1) := by decide +kernel
theorem dX7_cancel_1 : decode cX7_cancel 1 = .ok (.iconst 0, 1) := by decide +kernel
theorem dX7_cancel_2 : decode cX7_cancel 2 = .ok (.putfield 31, 3) := by decide +kernel
theorem dX7_cancel_5 : decode cX7_cancel 5 = .ok (.aload_n 0, 1) := by decide +kernel
theorem dX7_cancel_6 : decode cX7_cancel 6 = .ok (.iload_n 1, 1) := by decide +kernel
theorem dX7_cancel_7 : decode cX7_cancel 7 = .ok (.invokevirtual 136, 3) := by decide +kernel
theorem dX7_cancel_10 : decode cX7_cancel 10 = .ok (.ifCond .ne 9, 3) := by decide +kernel
theorem dX7_cancel_13 : decode cX7_cancel 13 = .ok (.aload_n 0, 1) := by decide +kernel
theorem dX7_cancel_14 : decode cX7_cancel 14 = .ok (.iconst 1, 1) := by decide +kernel
theorem dX7_cancel_15 : decode cX7_cancel 15 = .ok (.invokevirtual 76, 3) := by decide +kernel
theorem dX7_cancel_18 : decode cX7_cancel 18 = .ok (.ireturn, 1) := by decide +kernel
theorem dX7_cancel_19 : decode cX7_cancel 19 = .ok (.aload_n 0, 1) := by decide +kernel
theorem dX7_cancel_20 : decode cX7_cancel 20 = .ok (.getfield 21, 3) := by decide +kernel
theorem dX7_cancel_23 : decode cX7_cancel 23 = .ok (.iload_n 1, 1) := by decide +kernel
theorem dX7_cancel_24 : decode cX7_cancel 24 = .ok (.invokevirtual 52, 3) := by decide +kernel
theorem dX7_cancel_27 : decode cX7_cancel 27 = .ok (.checkcast 56, 3) := by decide +kernel
theorem dX7_cancel_30 : decode cX7_cancel 30 = .ok (.astore_n 2, 1) := by decide +kernel
theorem dX7_cancel_31 : decode cX7_cancel 31 = .ok (.aload_n 2, 1) := by decide +kernel
theorem dX7_cancel_32 : decode cX7_cancel 32 = .ok (.iconst 0, 1) := by decide +kernel
theorem dX7_cancel_33 : decode cX7_cancel 33 = .ok (.iaload, 1) := by decide +kernel
theorem dX7_cancel_34 : decode cX7_cancel 34 = .ok (.ifCond .eq 9, 3) := by decide +kernel
theorem dX7_cancel_37 : decode cX7_cancel 37 = .ok (.aload_n 0, 1) := by decide +kernel
theorem dX7_cancel_38 : decode cX7_cancel 38 = .ok (.iconst 2, 1) := by decide +kernel
theorem dX7_cancel_39 : decode cX7_cancel 39 = .ok (.invokevirtual 76, 3) := by decide +kernel
theorem dX7_cancel_42 : decode cX7_cancel 42 = .ok (.ireturn, 1) := by decide +kernel
theorem dX7_cancel_43 : decode cX7_cancel 43 = .ok (.aload_n 2, 1) := by decide +kernel
theorem dX7_cancel_44 : decode cX7_cancel 44 = .ok (.iconst 0, 1) := by decide +kernel
theorem dX7_cancel_45 : decode cX7_cancel 45 = .ok (.iconst 4, 1) := by decide +kernel
theorem dX7_cancel_46 : decode cX7_cancel 46 = .ok (.iastore, 1) := by decide +kernel
theorem dX7_cancel_47 : decode cX7_cancel 47 = .ok (.aload_n 2, 1) := by decide +kernel
theorem dX7_cancel_48 : decode cX7_cancel 48 = .ok (.iconst 4, 1) := by decide +kernel
theorem dX7_cancel_49 : decode cX7_cancel 49 = .ok (.iaload, 1) := by decide +kernel
theorem dX7_cancel_50 : decode cX7_cancel 50 = .ok (.aload_n 0, 1) := by decide +kernel
theorem dX7_cancel_51 : decode cX7_cancel 51 = .ok (.getfield 93, 3) := by decide +kernel
theorem dX7_cancel_54 : decode cX7_cancel 54 = .ok (.isub, 1) := by decide +kernel
theorem dX7_cancel_55 : decode cX7_cancel 55 = .ok (.iconst 5, 1) := by decide +kernel
theorem dX7_cancel_56 : decode cX7_cancel 56 = .ok (.if_icmp .ge 12, 3) := by decide +kernel
theorem dX7_cancel_59 : decode cX7_cancel 59 = .ok (.bipush 10, 2) := by decide +kernel
theorem dX7_cancel_61 : decode cX7_cancel 61 = .ok (.aload_n 2, 1) := by decide +kernel
theorem dX7_cancel_62 : decode cX7_cancel 62 = .ok (.iconst 5, 1) := by decide +kernel
theorem dX7_cancel_63 : decode cX7_cancel 63 = .ok (.iaload, 1) := by decide +kernel
theorem dX7_cancel_64 : decode cX7_cancel 64 = .ok (.imul, 1) := by decide +kernel
theorem dX7_cancel_65 : decode cX7_cancel 65 = .ok (.goto 4, 3) := by decide +kernel
theorem dX7_cancel_68 : decode cX7_cancel 68 = .ok (.iconst 0, 1) := by decide +kernel
theorem dX7_cancel_69 : decode cX7_cancel 69 = .ok (.istore_n 3, 1) := by decide +kernel
theorem dX7_cancel_70 : decode cX7_cancel 70 = .ok (.aload_n 0, 1) := by decide +kernel
theorem dX7_cancel_71 : decode cX7_cancel 71 = .ok (.dup, 1) := by decide +kernel
theorem dX7_cancel_72 : decode cX7_cancel 72 = .ok (.getfield 103, 3) := by decide +kernel
theorem dX7_cancel_75 : decode cX7_cancel 75 = .ok (.iload_n 3, 1) := by decide +kernel
theorem dX7_cancel_76 : decode cX7_cancel 76 = .ok (.iadd, 1) := by decide +kernel
theorem dX7_cancel_77 : decode cX7_cancel 77 = .ok (.putfield 103, 3) := by decide +kernel
theorem dX7_cancel_80 : decode cX7_cancel 80 = .ok (.iload_n 3, 1) := by decide +kernel
theorem dX7_cancel_81 : decode cX7_cancel 81 = .ok (.ireturn, 1) := by decide +kernel
theorem dX7_mark_0 : decode cX7_mark 0 = .ok (.aload_n 0, 1) := by decide +kernel
theorem dX7_mark_1 : decode cX7_mark 1 = .ok (.iconst 0, 1) := by decide +kernel
theorem dX7_mark_2 : decode cX7_mark 2 = .ok (.putfield 31, 3) := by decide +kernel
theorem dX7_mark_5 : decode cX7_mark 5 = .ok (.aload_n 0, 1) := by decide +kernel
theorem dX7_mark_6 : decode cX7_mark 6 = .ok (.iload_n 1, 1) := by decide +kernel
theorem dX7_mark_7 : decode cX7_mark 7 = .ok (.invokevirtual 136, 3) := by decide +kernel
theorem dX7_mark_10 : decode cX7_mark 10 = .ok (.ifCond .eq 12, 3) := by decide +kernel
theorem dX7_mark_13 : decode cX7_mark 13 = .ok (.iload_n 2, 1) := by decide +kernel
theorem dX7_mark_14 : decode cX7_mark 14 = .ok (.iconst 0, 1) := by decide +kernel
theorem dX7_mark_15 : decode cX7_mark 15 = .ok (.iconst 1, 1) := by decide +kernel
theorem dX7_mark_16 : decode cX7_mark 16 = .ok (.invokestatic 68, 3) := by decide +kernel
theorem dX7_mark_19 : decode cX7_mark 19 = .ok (.ifCond .ne 9, 3) := by decide +kernel
theorem dX7_mark_22 : decode cX7_mark 22 = .ok (.aload_n 0, 1) := by decide +kernel
theorem dX7_mark_23 : decode cX7_mark 23 = .ok (.iconst 1, 1) := by decide +kernel
theorem dX7_mark_24 : decode cX7_mark 24 = .ok (.invokevirtual 76, 3) := by decide +kernel
theorem dX7_mark_27 : decode cX7_mark 27 = .ok (.ireturn, 1) := by decide +kernel
theorem dX7_mark_28 : decode cX7_mark 28 = .ok (.aload_n 0, 1) := by decide +kernel
theorem dX7_mark_29 : decode cX7_mark 29 = .ok (.getfield 21, 3) := by decide +kernel
theorem dX7_mark_32 : decode cX7_mark 32 = .ok (.iload_n 1, 1) := by decide +kernel
theorem dX7_mark_33 : decode cX7_mark 33 = .ok (.invokevirtual 52, 3) := by decide +kernel
theorem dX7_mark_36 : decode cX7_mark 36 = .ok (.checkcast 56, 3) := by decide +kernel
theorem dX7_mark_39 : decode cX7_mark 39 = .ok (.astore_n 3, 1) := by decide +kernel
theorem dX7_mark_40 : decode cX7_mark 40 = .ok (.aload_n 3, 1) := by decide +kernel
theorem dX7_mark_41 : decode cX7_mark 41 = .ok (.iconst 0, 1) := by decide +kernel
theorem dX7_mark_42 : decode cX7_mark 42 = .ok (.iaload, 1) := by decide +kernel
theorem dX7_mark_43 : decode cX7_mark 43 = .ok (.ifCond .ne 25, 3) := by decide +kernel
theorem dX7_mark_46 : decode cX7_mark 46 = .ok (.aload_n 3, 1) := by decide +kernel
theorem dX7_mark_47 : decode cX7_mark 47 = .ok (.iconst 4, 1) := by decide +kernel
theorem dX7_mark_48 : decode cX7_mark 48 = .ok (.iaload, 1) := by decide +kernel
theorem dX7_mark_49 : decode cX7_mark 49 = .ok (.aload_n 0, 1) := by decide +kernel
theorem dX7_mark_50 : decode cX7_mark 50 = .ok (.getfield 93, 3) := by decide +kernel
theorem dX7_mark_53 : decode cX7_mark 53 = .ok (.if_icmp .ne 15, 3) := by decide +kernel
theorem dX7_mark_56 : decode cX7_mark 56 = .ok (.aload_n 3, 1) := by decide +kernel
theorem dX7_mark_57 : decode cX7_mark 57 = .ok (.bipush 8, 2) := by decide +kernel
theorem dX7_mark_59 : decode cX7_mark 59 = .ok (.iaload, 1) := by decide +kernel
theorem dX7_mark_60 : decode cX7_mark 60 = .ok (.iload_n 2, 1) := by decide +kernel
theorem dX7_mark_61 : decode cX7_mark 61 = .ok (.ishr, 1) := by decide +kernel
theorem dX7_mark_62 : decode cX7_mark 62 = .ok (.iconst 1, 1) := by decide +kernel
theorem dX7_mark_63 : decode cX7_mark 63 = .ok (.iand, 1) := by decide +kernel
theorem dX7_mark_64 : decode cX7_mark 64 = .ok (.iconst 1, 1) := by decide +kernel
theorem dX7_mark_65 : decode cX7_mark 65 = .ok (.if_icmp .ne 9, 3) := by decide +kernel
theorem dX7_mark_68 : decode cX7_mark 68 = .ok (.aload_n 0, 1) := by decide +kernel
theorem dX7_mark_69 : decode cX7_mark 69 = .ok (.iconst 2, 1) := by decide +kernel
theorem dX7_mark_70 : decode cX7_mark 70 = .ok (.invokevirtual 76, 3) := by decide +kernel
theorem dX7_mark_73 : decode cX7_mark 73 = .ok (.ireturn, 1) := by decide +kernel
theorem dX7_mark_74 : decode cX7_mark 74 = .ok (.aload_n 3, 1) := by decide +kernel
theorem dX7_mark_75 : decode cX7_mark 75 = .ok (.bipush 8, 2) := by decide +kernel
theorem dX7_mark_77 : decode cX7_mark 77 = .ok (.dup2, 1) := by decide +kernel
theorem dX7_mark_78 : decode cX7_mark 78 = .ok (.iaload, 1) := by decide +kernel
theorem dX7_mark_79 : decode cX7_mark 79 = .ok (.iconst 1, 1) := by decide +kernel
theorem dX7_mark_80 : decode cX7_mark 80 = .ok (.iload_n 2, 1) := by decide +kernel
theorem dX7_mark_81 : decode cX7_mark 81 = .ok (.ishl, 1) := by decide +kernel
theorem dX7_mark_82 : decode cX7_mark 82 = .ok (.ior, 1) := by decide +kernel
theorem dX7_mark_83 : decode cX7_mark 83 = .ok (.iastore, 1) := by decide +kernel
theorem dX7_mark_84 : decode cX7_mark 84 = .ok (.aload_n 3, 1) := by decide +kernel
theorem dX7_mark_85 : decode cX7_mark 85 = .ok (.bipush 8, 2) := by decide +kernel
theorem dX7_mark_87 : decode cX7_mark 87 = .ok (.iaload, 1) := by decide +kernel
theorem dX7_mark_88 : decode cX7_mark 88 = .ok (.invokestatic 145, 3) := by decide +kernel
theorem dX7_mark_91 : decode cX7_mark 91 = .ok (.ireturn, 1) := by decide +kernel
theorem dX7_take_0 : decode cX7_take 0 = .ok (.aload_n 0, 1) := by decide +kernel
theorem dX7_take_1 : decode cX7_take 1 = .ok (.iconst 0, 1) := by decide +kernel
theorem dX7_take_2 : decode cX7_take 2 = .ok (.putfield 31, 3) := by decide +kernel
theorem dX7_take_5 : decode cX7_take 5 = .ok (.aload_n 0, 1) := by decide +kernel
theorem dX7_take_6 : decode cX7_take 6 = .ok (.iload_n 1, 1) := by decide +kernel
theorem dX7_take_7 : decode cX7_take 7 = .ok (.invokevirtual 136, 3) := by decide +kernel
theorem dX7_take_10 : decode cX7_take 10 = .ok (.ifCond .ne 9, 3) := by decide +kernel
theorem dX7_take_13 : decode cX7_take 13 = .ok (.aload_n 0, 1) := by decide +kernel
theorem dX7_take_14 : decode cX7_take 14 = .ok (.iconst 1, 1) := by decide +kernel
theorem dX7_take_15 : decode cX7_take 15 = .ok (.invokevirtual 76, 3) := by decide +kernel
theorem dX7_take_18 : decode cX7_take 18 = .ok (.ireturn, 1) := by decide +kernel
theorem dX7_take_19 : decode cX7_take 19 = .ok (.aload_n 0, 1) := by decide +kernel
theorem dX7_take_20 : decode cX7_take 20 = .ok (.getfield 21, 3) := by decide +kernel
theorem dX7_take_23 : decode cX7_take 23 = .ok (.iload_n 1, 1) := by decide +kernel
theorem dX7_take_24 : decode cX7_take 24 = .ok (.invokevirtual 52, 3) := by decide +kernel
theorem dX7_take_27 : decode cX7_take 27 = .ok (.checkcast 56, 3) := by decide +kernel
theorem dX7_take_30 : decode cX7_take 30 = .ok (.astore_n 2, 1) := by decide +kernel
theorem dX7_take_31 : decode cX7_take 31 = .ok (.aload_n 2, 1) := by decide +kernel
theorem dX7_take_32 : decode cX7_take 32 = .ok (.iconst 0, 1) := by decide +kernel
theorem dX7_take_33 : decode cX7_take 33 = .ok (.iaload, 1) := by decide +kernel
theorem dX7_take_34 : decode cX7_take 34 = .ok (.ifCond .ne 11, 3) := by decide +kernel
theorem dX7_take_37 : decode cX7_take 37 = .ok (.aload_n 2, 1) := by decide +kernel
theorem dX7_take_38 : decode cX7_take 38 = .ok (.bipush 8, 2) := by decide +kernel
theorem dX7_take_40 : decode cX7_take 40 = .ok (.iaload, 1) := by decide +kernel
theorem dX7_take_41 : decode cX7_take 41 = .ok (.iconst 3, 1) := by decide +kernel
theorem dX7_take_42 : decode cX7_take 42 = .ok (.if_icmp .eq 9, 3) := by decide +kernel
theorem dX7_take_45 : decode cX7_take 45 = .ok (.aload_n 0, 1) := by decide +kernel
theorem dX7_take_46 : decode cX7_take 46 = .ok (.iconst 2, 1) := by decide +kernel
theorem dX7_take_47 : decode cX7_take 47 = .ok (.invokevirtual 76, 3) := by decide +kernel
theorem dX7_take_50 : decode cX7_take 50 = .ok (.ireturn, 1) := by decide +kernel
theorem dX7_take_51 : decode cX7_take 51 = .ok (.aload_n 2, 1) := by decide +kernel
theorem dX7_take_52 : decode cX7_take 52 = .ok (.iconst 0, 1) := by decide +kernel
theorem dX7_take_53 : decode cX7_take 53 = .ok (.iconst 1, 1) := by decide +kernel
theorem dX7_take_54 : decode cX7_take 54 = .ok (.iastore, 1) := by decide +kernel
theorem dX7_take_55 : decode cX7_take 55 = .ok (.aload_n 2, 1) := by decide +kernel
theorem dX7_take_56 : decode cX7_take 56 = .ok (.iconst 3, 1) := by decide +kernel
theorem dX7_take_57 : decode cX7_take 57 = .ok (.iaload, 1) := by decide +kernel
theorem dX7_take_58 : decode cX7_take 58 = .ok (.aload_n 2, 1) := by decide +kernel
theorem dX7_take_59 : decode cX7_take 59 = .ok (.iconst 2, 1) := by decide +kernel
theorem dX7_take_60 : decode cX7_take 60 = .ok (.iaload, 1) := by decide +kernel
theorem dX7_take_61 : decode cX7_take 61 = .ok (.isub, 1) := by decide +kernel
theorem dX7_take_62 : decode cX7_take 62 = .ok (.iconst 1, 1) := by decide +kernel
theorem dX7_take_63 : decode cX7_take 63 = .ok (.iadd, 1) := by decide +kernel
theorem dX7_take_64 : decode cX7_take 64 = .ok (.ireturn, 1) := by decide +kernel
theorem dX7_took_0 : decode cX7_took 0 = .ok (.iconst 0, 1) := by decide +kernel
theorem dX7_took_1 : decode cX7_took 1 = .ok (.istore_n 2, 1) := by decide +kernel
theorem dX7_took_2 : decode cX7_took 2 = .ok (.iconst 0, 1) := by decide +kernel
theorem dX7_took_3 : decode cX7_took 3 = .ok (.istore_n 3, 1) := by decide +kernel
theorem dX7_took_4 : decode cX7_took 4 = .ok (.iload_n 3, 1) := by decide +kernel
theorem dX7_took_5 : decode cX7_took 5 = .ok (.aload_n 0, 1) := by decide +kernel
theorem dX7_took_6 : decode cX7_took 6 = .ok (.bipush 6, 2) := by decide +kernel
theorem dX7_took_8 : decode cX7_took 8 = .ok (.iaload, 1) := by decide +kernel
theorem dX7_took_9 : decode cX7_took 9 = .ok (.if_icmp .ge 86, 3) := by decide +kernel
theorem dX7_took_12 : decode cX7_took 12 = .ok (.aload_n 0, 1) := by decide +kernel
theorem dX7_took_13 : decode cX7_took 13 = .ok (.bipush 10, 2) := by decide +kernel
theorem dX7_took_15 : decode cX7_took 15 = .ok (.iconst 3, 1) := by decide +kernel
theorem dX7_took_16 : decode cX7_took 16 = .ok (.iload_n 3, 1) := by decide +kernel
theorem dX7_took_17 : decode cX7_took 17 = .ok (.imul, 1) := by decide +kernel
theorem dX7_took_18 : decode cX7_took 18 = .ok (.iadd, 1) := by decide +kernel
theorem dX7_took_19 : decode cX7_took 19 = .ok (.iconst 1, 1) := by decide +kernel
theorem dX7_took_20 : decode cX7_took 20 = .ok (.iadd, 1) := by decide +kernel
theorem dX7_took_21 : decode cX7_took 21 = .ok (.iaload, 1) := by decide +kernel
theorem dX7_took_22 : decode cX7_took 22 = .ok (.istore 4, 2) := by decide +kernel
theorem dX7_took_24 : decode cX7_took 24 = .ok (.aload_n 0, 1) := by decide +kernel
theorem dX7_took_25 : decode cX7_took 25 = .ok (.bipush 10, 2) := by decide +kernel
theorem dX7_took_27 : decode cX7_took 27 = .ok (.iconst 3, 1) := by decide +kernel
theorem dX7_took_28 : decode cX7_took 28 = .ok (.iload_n 3, 1) := by decide +kernel
theorem dX7_took_29 : decode cX7_took 29 = .ok (.imul, 1) := by decide +kernel
theorem dX7_took_30 : decode cX7_took 30 = .ok (.iadd, 1) := by decide +kernel
theorem dX7_took_31 : decode cX7_took 31 = .ok (.iconst 2, 1) := by decide +kernel
theorem dX7_took_32 : decode cX7_took 32 = .ok (.iadd, 1) := by decide +kernel
theorem dX7_took_33 : decode cX7_took 33 = .ok (.iaload, 1) := by decide +kernel
theorem dX7_took_34 : decode cX7_took 34 = .ok (.istore 5, 2) := by decide +kernel
theorem dX7_took_36 : decode cX7_took 36 = .ok (.aload_n 1, 1) := by decide +kernel
theorem dX7_took_37 : decode cX7_took 37 = .ok (.iload 4, 2) := by decide +kernel
theorem dX7_took_39 : decode cX7_took 39 = .ok (.iaload, 1) := by decide +kernel
theorem dX7_took_40 : decode cX7_took 40 = .ok (.iload 5, 2) := by decide +kernel
theorem dX7_took_42 : decode cX7_took 42 = .ok (.if_icmp .lt 7, 3) := by decide +kernel
theorem dX7_took_45 : decode cX7_took 45 = .ok (.iconst 1, 1) := by decide +kernel
theorem dX7_took_46 : decode cX7_took 46 = .ok (.goto 4, 3) := by decide +kernel
theorem dX7_took_49 : decode cX7_took 49 = .ok (.iconst 0, 1) := by decide +kernel
theorem dX7_took_50 : decode cX7_took 50 = .ok (.istore 6, 2) := by decide +kernel
theorem dX7_took_52 : decode cX7_took 52 = .ok (.iload_n 2, 1) := by decide +kernel
theorem dX7_took_53 : decode cX7_took 53 = .ok (.iload 6, 2) := by decide +kernel
theorem dX7_took_55 : decode cX7_took 55 = .ok (.ifCond .eq 8, 3) := by decide +kernel
theorem dX7_took_58 : decode cX7_took 58 = .ok (.iload 5, 2) := by decide +kernel
theorem dX7_took_60 : decode cX7_took 60 = .ok (.goto 7, 3) := by decide +kernel
theorem dX7_took_63 : decode cX7_took 63 = .ok (.iload 5, 2) := by decide +kernel
theorem dX7_took_65 : decode cX7_took 65 = .ok (.iconst 2, 1) := by decide +kernel
theorem dX7_took_66 : decode cX7_took 66 = .ok (.iadd, 1) := by decide +kernel
theorem dX7_took_67 : decode cX7_took 67 = .ok (.iadd, 1) := by decide +kernel
theorem dX7_took_68 : decode cX7_took 68 = .ok (.istore_n 2, 1) := by decide +kernel
theorem dX7_took_69 : decode cX7_took 69 = .ok (.aload_n 1, 1) := by decide +kernel
theorem dX7_took_70 : decode cX7_took 70 = .ok (.iload 4, 2) := by decide +kernel
theorem dX7_took_72 : decode cX7_took 72 = .ok (.iload 6, 2) := by decide +kernel
theorem dX7_took_74 : decode cX7_took 74 = .ok (.ifCond .eq 13, 3) := by decide +kernel
theorem dX7_took_77 : decode cX7_took 77 = .ok (.aload_n 1, 1) := by decide +kernel
theorem dX7_took_78 : decode cX7_took 78 = .ok (.iload 4, 2) := by decide +kernel
theorem dX7_took_80 : decode cX7_took 80 = .ok (.iaload, 1) := by decide +kernel
theorem dX7_took_81 : decode cX7_took 81 = .ok (.iload 5, 2) := by decide +kernel
theorem dX7_took_83 : decode cX7_took 83 = .ok (.isub, 1) := by decide +kernel
theorem dX7_took_84 : decode cX7_took 84 = .ok (.goto 4, 3) := by decide +kernel
theorem dX7_took_87 : decode cX7_took 87 = .ok (.iconst 0, 1) := by decide +kernel
theorem dX7_took_88 : decode cX7_took 88 = .ok (.iastore, 1) := by decide +kernel
theorem dX7_took_89 : decode cX7_took 89 = .ok (.iinc 3 1, 3) := by decide +kernel
theorem dX7_took_92 : decode cX7_took 92 = .ok (.goto (-88), 3) := by decide +kernel
theorem dX7_took_95 : decode cX7_took 95 = .ok (.iload_n 2, 1) := by decide +kernel
theorem dX7_took_96 : decode cX7_took 96 = .ok (.ireturn, 1) := by decide +kernel
theorem dX7_lives_0 : decode cX7_lives 0 = .ok (.iconst 4, 1) := by decide +kernel
theorem dX7_lives_1 : decode cX7_lives 1 = .ok (.newarray .int, 2) := by decide +kernel
theorem dX7_lives_3 : decode cX7_lives 3 = .ok (.astore_n 1, 1) := by decide +kernel
theorem dX7_lives_4 : decode cX7_lives 4 = .ok (.iconst 0, 1) := by decide +kernel
theorem dX7_lives_5 : decode cX7_lives 5 = .ok (.istore_n 2, 1) := by decide +kernel
theorem dX7_lives_6 : decode cX7_lives 6 = .ok (.iload_n 2, 1) := by decide +kernel
theorem dX7_lives_7 : decode cX7_lives 7 = .ok (.aload_n 0, 1) := by decide +kernel
theorem dX7_lives_8 : decode cX7_lives 8 = .ok (.getfield 17, 3) := by decide +kernel
theorem dX7_lives_11 : decode cX7_lives 11 = .ok (.invokevirtual 64, 3) := by decide +kernel
theorem dX7_lives_14 : decode cX7_lives 14 = .ok (.if_icmp .ge 25, 3) := by decide +kernel
theorem dX7_lives_17 : decode cX7_lives 17 = .ok (.aload_n 1, 1) := by decide +kernel
theorem dX7_lives_18 : decode cX7_lives 18 = .ok (.iload_n 2, 1) := by decide +kernel
theorem dX7_lives_19 : decode cX7_lives 19 = .ok (.aload_n 0, 1) := by decide +kernel
theorem dX7_lives_20 : decode cX7_lives 20 = .ok (.getfield 17, 3) := by decide +kernel
theorem dX7_lives_23 : decode cX7_lives 23 = .ok (.iload_n 2, 1) := by decide +kernel
theorem dX7_lives_24 : decode cX7_lives 24 = .ok (.invokevirtual 52, 3) := by decide +kernel
theorem dX7_lives_27 : decode cX7_lives 27 = .ok (.checkcast 56, 3) := by decide +kernel
theorem dX7_lives_30 : decode cX7_lives 30 = .ok (.iconst 1, 1) := by decide +kernel
theorem dX7_lives_31 : decode cX7_lives 31 = .ok (.iaload, 1) := by decide +kernel
theorem dX7_lives_32 : decode cX7_lives 32 = .ok (.iastore, 1) := by decide +kernel
theorem dX7_lives_33 : decode cX7_lives 33 = .ok (.iinc 2 1, 3) := by decide +kernel
theorem dX7_lives_36 : decode cX7_lives 36 = .ok (.goto (-30), 3) := by decide +kernel
theorem dX7_lives_39 : decode cX7_lives 39 = .ok (.aload_n 1, 1) := by decide +kernel
theorem dX7_lives_40 : decode cX7_lives 40 = .ok (.areturn, 1) := by decide +kernel
theorem dX7_treat_0 : decode cX7_treat 0 = .ok (.iload_n 1, 1) := by decide +kernel
theorem dX7_treat_1 : decode cX7_treat 1 = .ok (.ifCond .ne 20, 3) := by decide +kernel
theorem dX7_treat_4 : decode cX7_treat 4 = .ok (.aload_n 0, 1) := by decide +kernel
theorem dX7_treat_5 : decode cX7_treat 5 = .ok (.iconst 2, 1) := by decide +kernel
theorem dX7_treat_6 : decode cX7_treat 6 = .ok (.dup2, 1) := by decide +kernel
theorem dX7_treat_7 : decode cX7_treat 7 = .ok (.iaload, 1) := by decide +kernel
theorem dX7_treat_8 : decode cX7_treat 8 = .ok (.iconst 4, 1) := by decide +kernel
theorem dX7_treat_9 : decode cX7_treat 9 = .ok (.idiv, 1) := by decide +kernel
theorem dX7_treat_10 : decode cX7_treat 10 = .ok (.iastore, 1) := by decide +kernel
theorem dX7_treat_11 : decode cX7_treat 11 = .ok (.aload_n 0, 1) := by decide +kernel
theorem dX7_treat_12 : decode cX7_treat 12 = .ok (.iconst 3, 1) := by decide +kernel
theorem dX7_treat_13 : decode cX7_treat 13 = .ok (.dup2, 1) := by decide +kernel
theorem dX7_treat_14 : decode cX7_treat 14 = .ok (.iaload, 1) := by decide +kernel
theorem dX7_treat_15 : decode cX7_treat 15 = .ok (.iconst 1, 1) := by decide +kernel
theorem dX7_treat_16 : decode cX7_treat 16 = .ok (.iadd, 1) := by decide +kernel
theorem dX7_treat_17 : decode cX7_treat 17 = .ok (.iastore, 1) := by decide +kernel
theorem dX7_treat_18 : decode cX7_treat 18 = .ok (.goto 67, 3) := by decide +kernel
theorem dX7_treat_21 : decode cX7_treat 21 = .ok (.iload_n 1, 1) := by decide +kernel
theorem dX7_treat_22 : decode cX7_treat 22 = .ok (.iconst 1, 1) := by decide +kernel
theorem dX7_treat_23 : decode cX7_treat 23 = .ok (.if_icmp .ne 32, 3) := by decide +kernel
theorem dX7_treat_26 : decode cX7_treat 26 = .ok (.aload_n 0, 1) := by decide +kernel
theorem dX7_treat_27 : decode cX7_treat 27 = .ok (.iconst 1, 1) := by decide +kernel
theorem dX7_treat_28 : decode cX7_treat 28 = .ok (.iconst 0, 1) := by decide +kernel
theorem dX7_treat_29 : decode cX7_treat 29 = .ok (.aload_n 0, 1) := by decide +kernel
theorem dX7_treat_30 : decode cX7_treat 30 = .ok (.iconst 1, 1) := by decide +kernel
theorem dX7_treat_31 : decode cX7_treat 31 = .ok (.iaload, 1) := by decide +kernel
theorem dX7_treat_32 : decode cX7_treat 32 = .ok (.bipush 8, 2) := by decide +kernel
theorem dX7_treat_34 : decode cX7_treat 34 = .ok (.isub, 1) := by decide +kernel
theorem dX7_treat_35 : decode cX7_treat 35 = .ok (.invokestatic 150, 3) := by decide +kernel
theorem dX7_treat_38 : decode cX7_treat 38 = .ok (.iastore, 1) := by decide +kernel
theorem dX7_treat_39 : decode cX7_treat 39 = .ok (.aload_n 0, 1) := by decide +kernel
theorem dX7_treat_40 : decode cX7_treat 40 = .ok (.iconst 0, 1) := by decide +kernel
theorem dX7_treat_41 : decode cX7_treat 41 = .ok (.bipush 100, 2) := by decide +kernel
theorem dX7_treat_43 : decode cX7_treat 43 = .ok (.aload_n 0, 1) := by decide +kernel
theorem dX7_treat_44 : decode cX7_treat 44 = .ok (.iconst 0, 1) := by decide +kernel
theorem dX7_treat_45 : decode cX7_treat 45 = .ok (.iaload, 1) := by decide +kernel
theorem dX7_treat_46 : decode cX7_treat 46 = .ok (.iconst 2, 1) := by decide +kernel
theorem dX7_treat_47 : decode cX7_treat 47 = .ok (.iadd, 1) := by decide +kernel
theorem dX7_treat_48 : decode cX7_treat 48 = .ok (.invokestatic 38, 3) := by decide +kernel
theorem dX7_treat_51 : decode cX7_treat 51 = .ok (.iastore, 1) := by decide +kernel
theorem dX7_treat_52 : decode cX7_treat 52 = .ok (.goto 33, 3) := by decide +kernel
theorem dX7_treat_55 : decode cX7_treat 55 = .ok (.aload_n 0, 1) := by decide +kernel
theorem dX7_treat_56 : decode cX7_treat 56 = .ok (.iconst 0, 1) := by decide +kernel
theorem dX7_treat_57 : decode cX7_treat 57 = .ok (.iconst 0, 1) := by decide +kernel
theorem dX7_treat_58 : decode cX7_treat 58 = .ok (.iastore, 1) := by decide +kernel
theorem dX7_treat_59 : decode cX7_treat 59 = .ok (.aload_n 0, 1) := by decide +kernel
theorem dX7_treat_60 : decode cX7_treat 60 = .ok (.iconst 1, 1) := by decide +kernel
theorem dX7_treat_61 : decode cX7_treat 61 = .ok (.iconst 0, 1) := by decide +kernel
theorem dX7_treat_62 : decode cX7_treat 62 = .ok (.iastore, 1) := by decide +kernel
theorem dX7_treat_63 : decode cX7_treat 63 = .ok (.aload_n 0, 1) := by decide +kernel
theorem dX7_treat_64 : decode cX7_treat 64 = .ok (.iconst 2, 1) := by decide +kernel
theorem dX7_treat_65 : decode cX7_treat 65 = .ok (.iconst 0, 1) := by decide +kernel
theorem dX7_treat_66 : decode cX7_treat 66 = .ok (.iastore, 1) := by decide +kernel
theorem dX7_treat_67 : decode cX7_treat 67 = .ok (.aload_n 0, 1) := by decide +kernel
theorem dX7_treat_68 : decode cX7_treat 68 = .ok (.iconst 3, 1) := by decide +kernel
theorem dX7_treat_69 : decode cX7_treat 69 = .ok (.iconst 0, 1) := by decide +kernel
theorem dX7_treat_70 : decode cX7_treat 70 = .ok (.iastore, 1) := by decide +kernel
theorem dX7_treat_71 : decode cX7_treat 71 = .ok (.aload_n 0, 1) := by decide +kernel
theorem dX7_treat_72 : decode cX7_treat 72 = .ok (.iconst 4, 1) := by decide +kernel
theorem dX7_treat_73 : decode cX7_treat 73 = .ok (.bipush 10, 2) := by decide +kernel
theorem dX7_treat_75 : decode cX7_treat 75 = .ok (.bipush 40, 2) := by decide +kernel
theorem dX7_treat_77 : decode cX7_treat 77 = .ok (.iload_n 2, 1) := by decide +kernel
theorem dX7_treat_78 : decode cX7_treat 78 = .ok (.invokestatic 38, 3) := by decide +kernel
theorem dX7_treat_81 : decode cX7_treat 81 = .ok (.invokestatic 150, 3) := by decide +kernel
theorem dX7_treat_84 : decode cX7_treat 84 = .ok (.iastore, 1) := by decide +kernel
theorem dX7_treat_85 : decode cX7_treat 85 = .ok (.return_, 1) := by decide +kernel
theorem dX7_give_0 : decode cX7_give 0 = .ok (.aload_n 1, 1) := by decide +kernel
theorem dX7_give_1 : decode cX7_give 1 = .ok (.aload_n 0, 1) := by decide +kernel
theorem dX7_give_2 : decode cX7_give 2 = .ok (.invokevirtual 153, 3) := by decide +kernel
theorem dX7_give_5 : decode cX7_give 5 = .ok (.invokestatic 157, 3) := by decide +kernel
theorem dX7_give_8 : decode cX7_give 8 = .ok (.istore_n 3, 1) := by decide +kernel
theorem dX7_give_9 : decode cX7_give 9 = .ok (.iconst 0, 1) := by decide +kernel
theorem dX7_give_10 : decode cX7_give 10 = .ok (.istore 4, 2) := by decide +kernel
theorem dX7_give_12 : decode cX7_give 12 = .ok (.iload 4, 2) := by decide +kernel
theorem dX7_give_14 : decode cX7_give 14 = .ok (.aload_n 1, 1) := by decide +kernel
theorem dX7_give_15 : decode cX7_give 15 = .ok (.bipush 6, 2) := by decide +kernel
theorem dX7_give_17 : decode cX7_give 17 = .ok (.iaload, 1) := by decide +kernel
theorem dX7_give_18 : decode cX7_give 18 = .ok (.if_icmp .ge 136, 3) := by decide +kernel
theorem dX7_give_21 : decode cX7_give 21 = .ok (.aload_n 0, 1) := by decide +kernel
theorem dX7_give_22 : decode cX7_give 22 = .ok (.getfield 17, 3) := by decide +kernel
theorem dX7_give_25 : decode cX7_give 25 = .ok (.aload_n 1, 1) := by decide +kernel
theorem dX7_give_26 : decode cX7_give 26 = .ok (.bipush 10, 2) := by decide +kernel
theorem dX7_give_28 : decode cX7_give 28 = .ok (.iconst 3, 1) := by decide +kernel
theorem dX7_give_29 : decode cX7_give 29 = .ok (.iload 4, 2) := by decide +kernel
theorem dX7_give_31 : decode cX7_give 31 = .ok (.imul, 1) := by decide +kernel
theorem dX7_give_32 : decode cX7_give 32 = .ok (.iadd, 1) := by decide +kernel
theorem dX7_give_33 : decode cX7_give 33 = .ok (.iconst 1, 1) := by decide +kernel
theorem dX7_give_34 : decode cX7_give 34 = .ok (.iadd, 1) := by decide +kernel
theorem dX7_give_35 : decode cX7_give 35 = .ok (.iaload, 1) := by decide +kernel
theorem dX7_give_36 : decode cX7_give 36 = .ok (.invokevirtual 52, 3) := by decide +kernel
theorem dX7_give_39 : decode cX7_give 39 = .ok (.checkcast 56, 3) := by decide +kernel
theorem dX7_give_42 : decode cX7_give 42 = .ok (.astore 5, 2) := by decide +kernel
theorem dX7_give_44 : decode cX7_give 44 = .ok (.aload_n 1, 1) := by decide +kernel
theorem dX7_give_45 : decode cX7_give 45 = .ok (.bipush 10, 2) := by decide +kernel
theorem dX7_give_47 : decode cX7_give 47 = .ok (.iconst 3, 1) := by decide +kernel
theorem dX7_give_48 : decode cX7_give 48 = .ok (.iload 4, 2) := by decide +kernel
theorem dX7_give_50 : decode cX7_give 50 = .ok (.imul, 1) := by decide +kernel
theorem dX7_give_51 : decode cX7_give 51 = .ok (.iadd, 1) := by decide +kernel
theorem dX7_give_52 : decode cX7_give 52 = .ok (.iconst 2, 1) := by decide +kernel
theorem dX7_give_53 : decode cX7_give 53 = .ok (.iadd, 1) := by decide +kernel
theorem dX7_give_54 : decode cX7_give 54 = .ok (.iaload, 1) := by decide +kernel
theorem dX7_give_55 : decode cX7_give 55 = .ok (.istore 6, 2) := by decide +kernel
theorem dX7_give_57 : decode cX7_give 57 = .ok (.aload 5, 2) := by decide +kernel
theorem dX7_give_59 : decode cX7_give 59 = .ok (.iconst 1, 1) := by decide +kernel
theorem dX7_give_60 : decode cX7_give 60 = .ok (.iaload, 1) := by decide +kernel
theorem dX7_give_61 : decode cX7_give 61 = .ok (.iload 6, 2) := by decide +kernel
theorem dX7_give_63 : decode cX7_give 63 = .ok (.if_icmp .ge 19, 3) := by decide +kernel
theorem dX7_give_66 : decode cX7_give 66 = .ok (.aload 5, 2) := by decide +kernel
theorem dX7_give_68 : decode cX7_give 68 = .ok (.iconst 1, 1) := by decide +kernel
theorem dX7_give_69 : decode cX7_give 69 = .ok (.iconst 0, 1) := by decide +kernel
theorem dX7_give_70 : decode cX7_give 70 = .ok (.iastore, 1) := by decide +kernel
theorem dX7_give_71 : decode cX7_give 71 = .ok (.aload 5, 2) := by decide +kernel
theorem dX7_give_73 : decode cX7_give 73 = .ok (.iconst 3, 1) := by decide +kernel
theorem dX7_give_74 : decode cX7_give 74 = .ok (.dup2, 1) := by decide +kernel
theorem dX7_give_75 : decode cX7_give 75 = .ok (.iaload, 1) := by decide +kernel
theorem dX7_give_76 : decode cX7_give 76 = .ok (.iconst 1, 1) := by decide +kernel
theorem dX7_give_77 : decode cX7_give 77 = .ok (.iadd, 1) := by decide +kernel
theorem dX7_give_78 : decode cX7_give 78 = .ok (.iastore, 1) := by decide +kernel
theorem dX7_give_79 : decode cX7_give 79 = .ok (.goto 69, 3) := by decide +kernel
theorem dX7_give_82 : decode cX7_give 82 = .ok (.aload 5, 2) := by decide +kernel
theorem dX7_give_84 : decode cX7_give 84 = .ok (.iconst 1, 1) := by decide +kernel
theorem dX7_give_85 : decode cX7_give 85 = .ok (.dup2, 1) := by decide +kernel
theorem dX7_give_86 : decode cX7_give 86 = .ok (.iaload, 1) := by decide +kernel
theorem dX7_give_87 : decode cX7_give 87 = .ok (.iload 6, 2) := by decide +kernel
theorem dX7_give_89 : decode cX7_give 89 = .ok (.isub, 1) := by decide +kernel
theorem dX7_give_90 : decode cX7_give 90 = .ok (.iastore, 1) := by decide +kernel
theorem dX7_give_91 : decode cX7_give 91 = .ok (.aload 5, 2) := by decide +kernel
theorem dX7_give_93 : decode cX7_give 93 = .ok (.iconst 2, 1) := by decide +kernel
theorem dX7_give_94 : decode cX7_give 94 = .ok (.dup2, 1) := by decide +kernel
theorem dX7_give_95 : decode cX7_give 95 = .ok (.iaload, 1) := by decide +kernel
theorem dX7_give_96 : decode cX7_give 96 = .ok (.iconst 1, 1) := by decide +kernel
theorem dX7_give_97 : decode cX7_give 97 = .ok (.iadd, 1) := by decide +kernel
theorem dX7_give_98 : decode cX7_give 98 = .ok (.iastore, 1) := by decide +kernel
theorem dX7_give_99 : decode cX7_give 99 = .ok (.aload_n 0, 1) := by decide +kernel
theorem dX7_give_100 : decode cX7_give 100 = .ok (.getfield 11, 3) := by decide +kernel
theorem dX7_give_103 : decode cX7_give 103 = .ok (.aload_n 1, 1) := by decide +kernel
theorem dX7_give_104 : decode cX7_give 104 = .ok (.bipush 10, 2) := by decide +kernel
theorem dX7_give_106 : decode cX7_give 106 = .ok (.iconst 3, 1) := by decide +kernel
theorem dX7_give_107 : decode cX7_give 107 = .ok (.iload 4, 2) := by decide +kernel
theorem dX7_give_109 : decode cX7_give 109 = .ok (.imul, 1) := by decide +kernel
theorem dX7_give_110 : decode cX7_give 110 = .ok (.iadd, 1) := by decide +kernel
theorem dX7_give_111 : decode cX7_give 111 = .ok (.iaload, 1) := by decide +kernel
theorem dX7_give_112 : decode cX7_give 112 = .ok (.aaload, 1) := by decide +kernel
theorem dX7_give_113 : decode cX7_give 113 = .ok (.aload 5, 2) := by decide +kernel
theorem dX7_give_115 : decode cX7_give 115 = .ok (.iconst 0, 1) := by decide +kernel
theorem dX7_give_116 : decode cX7_give 116 = .ok (.iaload, 1) := by decide +kernel
theorem dX7_give_117 : decode cX7_give 117 = .ok (.aload_n 0, 1) := by decide +kernel
theorem dX7_give_118 : decode cX7_give 118 = .ok (.getfield 27, 3) := by decide +kernel
theorem dX7_give_121 : decode cX7_give 121 = .ok (.invokestatic 161, 3) := by decide +kernel
theorem dX7_give_124 : decode cX7_give 124 = .ok (.aload_n 0, 1) := by decide +kernel
theorem dX7_give_125 : decode cX7_give 125 = .ok (.dup, 1) := by decide +kernel
theorem dX7_give_126 : decode cX7_give 126 = .ok (.getfield 103, 3) := by decide +kernel
theorem dX7_give_129 : decode cX7_give 129 = .ok (.aload 5, 2) := by decide +kernel
theorem dX7_give_131 : decode cX7_give 131 = .ok (.iconst 0, 1) := by decide +kernel
theorem dX7_give_132 : decode cX7_give 132 = .ok (.iaload, 1) := by decide +kernel
theorem dX7_give_133 : decode cX7_give 133 = .ok (.iconst 2, 1) := by decide +kernel
theorem dX7_give_134 : decode cX7_give 134 = .ok (.if_icmp .ne 9, 3) := by decide +kernel
theorem dX7_give_137 : decode cX7_give 137 = .ok (.sipush 300, 3) := by decide +kernel
theorem dX7_give_140 : decode cX7_give 140 = .ok (.goto 4, 3) := by decide +kernel
theorem dX7_give_143 : decode cX7_give 143 = .ok (.iconst 0, 1) := by decide +kernel
theorem dX7_give_144 : decode cX7_give 144 = .ok (.iadd, 1) := by decide +kernel
theorem dX7_give_145 : decode cX7_give 145 = .ok (.putfield 103, 3) := by decide +kernel
theorem dX7_give_148 : decode cX7_give 148 = .ok (.iinc 4 1, 3) := by decide +kernel
theorem dX7_give_151 : decode cX7_give 151 = .ok (.goto (-139), 3) := by decide +kernel
theorem dX7_give_154 : decode cX7_give 154 = .ok (.aload_n 1, 1) := by decide +kernel
theorem dX7_give_155 : decode cX7_give 155 = .ok (.iconst 0, 1) := by decide +kernel
theorem dX7_give_156 : decode cX7_give 156 = .ok (.iconst 2, 1) := by decide +kernel
theorem dX7_give_157 : decode cX7_give 157 = .ok (.iastore, 1) := by decide +kernel
theorem dX7_give_158 : decode cX7_give 158 = .ok (.aload_n 1, 1) := by decide +kernel
theorem dX7_give_159 : decode cX7_give 159 = .ok (.bipush 9, 2) := by decide +kernel
theorem dX7_give_161 : decode cX7_give 161 = .ok (.iconst 0, 1) := by decide +kernel
theorem dX7_give_162 : decode cX7_give 162 = .ok (.iload_n 3, 1) := by decide +kernel
theorem dX7_give_163 : decode cX7_give 163 = .ok (.aload_n 1, 1) := by decide +kernel
theorem dX7_give_164 : decode cX7_give 164 = .ok (.iconst 5, 1) := by decide +kernel
theorem dX7_give_165 : decode cX7_give 165 = .ok (.iaload, 1) := by decide +kernel
theorem dX7_give_166 : decode cX7_give 166 = .ok (.isub, 1) := by decide +kernel
theorem dX7_give_167 : decode cX7_give 167 = .ok (.invokestatic 150, 3) := by decide +kernel
theorem dX7_give_170 : decode cX7_give 170 = .ok (.iload_n 2, 1) := by decide +kernel
theorem dX7_give_171 : decode cX7_give 171 = .ok (.iadd, 1) := by decide +kernel
theorem dX7_give_172 : decode cX7_give 172 = .ok (.iastore, 1) := by decide +kernel
theorem dX7_give_173 : decode cX7_give 173 = .ok (.aload_n 0, 1) := by decide +kernel
theorem dX7_give_174 : decode cX7_give 174 = .ok (.dup, 1) := by decide +kernel
theorem dX7_give_175 : decode cX7_give 175 = .ok (.getfield 103, 3) := by decide +kernel
theorem dX7_give_178 : decode cX7_give 178 = .ok (.bipush 20, 2) := by decide +kernel
theorem dX7_give_180 : decode cX7_give 180 = .ok (.aload_n 1, 1) := by decide +kernel
theorem dX7_give_181 : decode cX7_give 181 = .ok (.iconst 5, 1) := by decide +kernel
theorem dX7_give_182 : decode cX7_give 182 = .ok (.iaload, 1) := by decide +kernel
theorem dX7_give_183 : decode cX7_give 183 = .ok (.imul, 1) := by decide +kernel
theorem dX7_give_184 : decode cX7_give 184 = .ok (.bipush 30, 2) := by decide +kernel
theorem dX7_give_186 : decode cX7_give 186 = .ok (.iload_n 3, 1) := by decide +kernel
theorem dX7_give_187 : decode cX7_give 187 = .ok (.imul, 1) := by decide +kernel
theorem dX7_give_188 : decode cX7_give 188 = .ok (.iadd, 1) := by decide +kernel
theorem dX7_give_189 : decode cX7_give 189 = .ok (.bipush 100, 2) := by decide +kernel
theorem dX7_give_191 : decode cX7_give 191 = .ok (.aload_n 1, 1) := by decide +kernel
theorem dX7_give_192 : decode cX7_give 192 = .ok (.bipush 9, 2) := by decide +kernel
theorem dX7_give_194 : decode cX7_give 194 = .ok (.iaload, 1) := by decide +kernel
theorem dX7_give_195 : decode cX7_give 195 = .ok (.imul, 1) := by decide +kernel
theorem dX7_give_196 : decode cX7_give 196 = .ok (.iadd, 1) := by decide +kernel
theorem dX7_give_197 : decode cX7_give 197 = .ok (.iadd, 1) := by decide +kernel
theorem dX7_give_198 : decode cX7_give 198 = .ok (.putfield 103, 3) := by decide +kernel
theorem dX7_give_201 : decode cX7_give 201 = .ok (.aload_n 1, 1) := by decide +kernel
theorem dX7_give_202 : decode cX7_give 202 = .ok (.bipush 9, 2) := by decide +kernel
theorem dX7_give_204 : decode cX7_give 204 = .ok (.iaload, 1) := by decide +kernel
theorem dX7_give_205 : decode cX7_give 205 = .ok (.ireturn, 1) := by decide +kernel
theorem dX7_giveBack_0 : decode cX7_giveBack 0 = .ok (.aload_n 0, 1) := by decide +kernel
theorem dX7_giveBack_1 : decode cX7_giveBack 1 = .ok (.iconst 0, 1) := by decide +kernel
theorem dX7_giveBack_2 : decode cX7_giveBack 2 = .ok (.putfield 31, 3) := by decide +kernel
theorem dX7_giveBack_5 : decode cX7_giveBack 5 = .ok (.aload_n 0, 1) := by decide +kernel
theorem dX7_giveBack_6 : decode cX7_giveBack 6 = .ok (.iload_n 1, 1) := by decide +kernel
theorem dX7_giveBack_7 : decode cX7_giveBack 7 = .ok (.invokevirtual 136, 3) := by decide +kernel
theorem dX7_giveBack_10 : decode cX7_giveBack 10 = .ok (.ifCond .ne 9, 3) := by decide +kernel
theorem dX7_giveBack_13 : decode cX7_giveBack 13 = .ok (.aload_n 0, 1) := by decide +kernel
theorem dX7_giveBack_14 : decode cX7_giveBack 14 = .ok (.iconst 1, 1) := by decide +kernel
theorem dX7_giveBack_15 : decode cX7_giveBack 15 = .ok (.invokevirtual 76, 3) := by decide +kernel
theorem dX7_giveBack_18 : decode cX7_giveBack 18 = .ok (.ireturn, 1) := by decide +kernel
theorem dX7_giveBack_19 : decode cX7_giveBack 19 = .ok (.aload_n 0, 1) := by decide +kernel
theorem dX7_giveBack_20 : decode cX7_giveBack 20 = .ok (.getfield 21, 3) := by decide +kernel
theorem dX7_giveBack_23 : decode cX7_giveBack 23 = .ok (.iload_n 1, 1) := by decide +kernel
theorem dX7_giveBack_24 : decode cX7_giveBack 24 = .ok (.invokevirtual 52, 3) := by decide +kernel
theorem dX7_giveBack_27 : decode cX7_giveBack 27 = .ok (.checkcast 56, 3) := by decide +kernel
theorem dX7_giveBack_30 : decode cX7_giveBack 30 = .ok (.iconst 0, 1) := by decide +kernel
theorem dX7_giveBack_31 : decode cX7_giveBack 31 = .ok (.iaload, 1) := by decide +kernel
theorem dX7_giveBack_32 : decode cX7_giveBack 32 = .ok (.iconst 1, 1) := by decide +kernel
theorem dX7_giveBack_33 : decode cX7_giveBack 33 = .ok (.if_icmp .ne 22, 3) := by decide +kernel
theorem dX7_giveBack_36 : decode cX7_giveBack 36 = .ok (.aload_n 0, 1) := by decide +kernel
theorem dX7_giveBack_37 : decode cX7_giveBack 37 = .ok (.aload_n 0, 1) := by decide +kernel
theorem dX7_giveBack_38 : decode cX7_giveBack 38 = .ok (.getfield 21, 3) := by decide +kernel
theorem dX7_giveBack_41 : decode cX7_giveBack 41 = .ok (.iload_n 1, 1) := by decide +kernel
theorem dX7_giveBack_42 : decode cX7_giveBack 42 = .ok (.invokevirtual 52, 3) := by decide +kernel
theorem dX7_giveBack_45 : decode cX7_giveBack 45 = .ok (.checkcast 56, 3) := by decide +kernel
theorem dX7_giveBack_48 : decode cX7_giveBack 48 = .ok (.iconst 0, 1) := by decide +kernel
theorem dX7_giveBack_49 : decode cX7_giveBack 49 = .ok (.invokevirtual 96, 3) := by decide +kernel
theorem dX7_giveBack_52 : decode cX7_giveBack 52 = .ok (.goto 8, 3) := by decide +kernel
theorem dX7_giveBack_55 : decode cX7_giveBack 55 = .ok (.aload_n 0, 1) := by decide +kernel
theorem dX7_giveBack_56 : decode cX7_giveBack 56 = .ok (.iconst 2, 1) := by decide +kernel
theorem dX7_giveBack_57 : decode cX7_giveBack 57 = .ok (.invokevirtual 76, 3) := by decide +kernel
theorem dX7_giveBack_60 : decode cX7_giveBack 60 = .ok (.ireturn, 1) := by decide +kernel
theorem dX7_isTaken_0 : decode cX7_isTaken 0 = .ok (.iconst 0, 1) := by decide +kernel
theorem dX7_isTaken_1 : decode cX7_isTaken 1 = .ok (.istore_n 2, 1) := by decide +kernel
theorem dX7_isTaken_2 : decode cX7_isTaken 2 = .ok (.aload_n 0, 1) := by decide +kernel
theorem dX7_isTaken_3 : decode cX7_isTaken 3 = .ok (.getfield 21, 3) := by decide +kernel
theorem dX7_isTaken_6 : decode cX7_isTaken 6 = .ok (.invokevirtual 79, 3) := by decide +kernel
theorem dX7_isTaken_9 : decode cX7_isTaken 9 = .ok (.astore_n 3, 1) := by decide +kernel
theorem dX7_isTaken_10 : decode cX7_isTaken 10 = .ok (.aload_n 3, 1) := by decide +kernel
theorem dX7_isTaken_11 : decode cX7_isTaken 11 = .ok (.invokeinterface 83 1, 5) := by decide +kernel
theorem dX7_isTaken_16 : decode cX7_isTaken 16 = .ok (.ifCond .eq 43, 3) := by decide +kernel
theorem dX7_isTaken_19 : decode cX7_isTaken 19 = .ok (.aload_n 3, 1) := by decide +kernel
theorem dX7_isTaken_20 : decode cX7_isTaken 20 = .ok (.invokeinterface 89 1, 5) := by decide +kernel
theorem dX7_isTaken_25 : decode cX7_isTaken 25 = .ok (.checkcast 56, 3) := by decide +kernel
theorem dX7_isTaken_28 : decode cX7_isTaken 28 = .ok (.astore 4, 2) := by decide +kernel
theorem dX7_isTaken_30 : decode cX7_isTaken 30 = .ok (.iload_n 2, 1) := by decide +kernel
theorem dX7_isTaken_31 : decode cX7_isTaken 31 = .ok (.aload 4, 2) := by decide +kernel
theorem dX7_isTaken_33 : decode cX7_isTaken 33 = .ok (.iconst 0, 1) := by decide +kernel
end
section
theorem dX7_isTaken_34 : decode cX7_isTaken 34 = .ok (.iaload, 1) := by decide +kernel
theorem dX7_isTaken_35 : decode cX7_isTaken 35 = .ok (.iconst 1, 1) := by decide +kernel
theorem dX7_isTaken_36 : decode cX7_isTaken 36 = .ok (.if_icmp .ne 17, 3) := by decide +kernel
theorem dX7_isTaken_39 : decode cX7_isTaken 39 = .ok (.aload_n 0, 1) := by decide +kernel
theorem dX7_isTaken_40 : decode cX7_isTaken 40 = .ok (.aload 4, 2) := by decide +kernel
theorem dX7_isTaken_42 : decode cX7_isTaken 42 = .ok (.iload_n 1, 1) := by decide +kernel
theorem dX7_isTaken_43 : decode cX7_isTaken 43 = .ok (.invokevirtual 139, 3) := by decide +kernel
theorem dX7_isTaken_46 : decode cX7_isTaken 46 = .ok (.ifCond .eq 7, 3) := by decide +kernel
theorem dX7_isTaken_49 : decode cX7_isTaken 49 = .ok (.iconst 1, 1) := by decide +kernel
theorem dX7_isTaken_50 : decode cX7_isTaken 50 = .ok (.goto 4, 3) := by decide +kernel
theorem dX7_isTaken_53 : decode cX7_isTaken 53 = .ok (.iconst 0, 1) := by decide +kernel
theorem dX7_isTaken_54 : decode cX7_isTaken 54 = .ok (.ior, 1) := by decide +kernel
theorem dX7_isTaken_55 : decode cX7_isTaken 55 = .ok (.istore_n 2, 1) := by decide +kernel
theorem dX7_isTaken_56 : decode cX7_isTaken 56 = .ok (.goto (-46), 3) := by decide +kernel
theorem dX7_isTaken_59 : decode cX7_isTaken 59 = .ok (.iload_n 2, 1) := by decide +kernel
theorem dX7_isTaken_60 : decode cX7_isTaken 60 = .ok (.ireturn, 1) := by decide +kernel
theorem dX7_walk_0 : decode cX7_walk 0 = .ok (.aload_n 0, 1) := by decide +kernel
theorem dX7_walk_1 : decode cX7_walk 1 = .ok (.iload_n 1, 1) := by decide +kernel
theorem dX7_walk_2 : decode cX7_walk 2 = .ok (.invokestatic 72, 3) := by decide +kernel
theorem dX7_walk_5 : decode cX7_walk 5 = .ok (.ifCond .ne 7, 3) := by decide +kernel
theorem dX7_walk_8 : decode cX7_walk 8 = .ok (.iconst 1, 1) := by decide +kernel
theorem dX7_walk_9 : decode cX7_walk 9 = .ok (.goto 20, 3) := by decide +kernel
theorem dX7_walk_12 : decode cX7_walk 12 = .ok (.iload_n 2, 1) := by decide +kernel
theorem dX7_walk_13 : decode cX7_walk 13 = .ok (.bipush 50, 2) := by decide +kernel
theorem dX7_walk_15 : decode cX7_walk 15 = .ok (.sipush 2000, 3) := by decide +kernel
theorem dX7_walk_18 : decode cX7_walk 18 = .ok (.invokestatic 68, 3) := by decide +kernel
theorem dX7_walk_21 : decode cX7_walk 21 = .ok (.ifCond .eq 7, 3) := by decide +kernel
theorem dX7_walk_24 : decode cX7_walk 24 = .ok (.iconst 0, 1) := by decide +kernel
theorem dX7_walk_25 : decode cX7_walk 25 = .ok (.goto 4, 3) := by decide +kernel
theorem dX7_walk_28 : decode cX7_walk 28 = .ok (.iconst 2, 1) := by decide +kernel
theorem dX7_walk_29 : decode cX7_walk 29 = .ok (.putfield 31, 3) := by decide +kernel
theorem dX7_walk_32 : decode cX7_walk 32 = .ok (.aload_n 0, 1) := by decide +kernel
theorem dX7_walk_33 : decode cX7_walk 33 = .ok (.getfield 31, 3) := by decide +kernel
theorem dX7_walk_36 : decode cX7_walk 36 = .ok (.ifCond .le 5, 3) := by decide +kernel
theorem dX7_walk_39 : decode cX7_walk 39 = .ok (.iconst 0, 1) := by decide +kernel
theorem dX7_walk_40 : decode cX7_walk 40 = .ok (.ireturn, 1) := by decide +kernel
theorem dX7_walk_41 : decode cX7_walk 41 = .ok (.aload_n 0, 1) := by decide +kernel
theorem dX7_walk_42 : decode cX7_walk 42 = .ok (.iload_n 1, 1) := by decide +kernel
theorem dX7_walk_43 : decode cX7_walk 43 = .ok (.invokevirtual 165, 3) := by decide +kernel
theorem dX7_walk_46 : decode cX7_walk 46 = .ok (.ifCond .eq 5, 3) := by decide +kernel
theorem dX7_walk_49 : decode cX7_walk 49 = .ok (.iconst 1, 1) := by decide +kernel
theorem dX7_walk_50 : decode cX7_walk 50 = .ok (.ireturn, 1) := by decide +kernel
theorem dX7_walk_51 : decode cX7_walk 51 = .ok (.iload_n 1, 1) := by decide +kernel
theorem dX7_walk_52 : decode cX7_walk 52 = .ok (.bipush 10, 2) := by decide +kernel
theorem dX7_walk_54 : decode cX7_walk 54 = .ok (.iadd, 1) := by decide +kernel
theorem dX7_walk_55 : decode cX7_walk 55 = .ok (.bipush 20, 2) := by decide +kernel
theorem dX7_walk_57 : decode cX7_walk 57 = .ok (.irem, 1) := by decide +kernel
theorem dX7_walk_58 : decode cX7_walk 58 = .ok (.istore_n 3, 1) := by decide +kernel
theorem dX7_walk_59 : decode cX7_walk 59 = .ok (.aload_n 0, 1) := by decide +kernel
theorem dX7_walk_60 : decode cX7_walk 60 = .ok (.getfield 11, 3) := by decide +kernel
theorem dX7_walk_63 : decode cX7_walk 63 = .ok (.iload_n 1, 1) := by decide +kernel
theorem dX7_walk_64 : decode cX7_walk 64 = .ok (.aaload, 1) := by decide +kernel
theorem dX7_walk_65 : decode cX7_walk 65 = .ok (.bipush 6, 2) := by decide +kernel
theorem dX7_walk_67 : decode cX7_walk 67 = .ok (.iaload, 1) := by decide +kernel
theorem dX7_walk_68 : decode cX7_walk 68 = .ok (.aload_n 0, 1) := by decide +kernel
theorem dX7_walk_69 : decode cX7_walk 69 = .ok (.iload_n 3, 1) := by decide +kernel
theorem dX7_walk_70 : decode cX7_walk 70 = .ok (.invokevirtual 165, 3) := by decide +kernel
theorem dX7_walk_73 : decode cX7_walk 73 = .ok (.ifCond .eq 7, 3) := by decide +kernel
theorem dX7_walk_76 : decode cX7_walk 76 = .ok (.iconst 0, 1) := by decide +kernel
theorem dX7_walk_77 : decode cX7_walk 77 = .ok (.goto 12, 3) := by decide +kernel
theorem dX7_walk_80 : decode cX7_walk 80 = .ok (.aload_n 0, 1) := by decide +kernel
theorem dX7_walk_81 : decode cX7_walk 81 = .ok (.getfield 11, 3) := by decide +kernel
theorem dX7_walk_84 : decode cX7_walk 84 = .ok (.iload_n 3, 1) := by decide +kernel
theorem dX7_walk_85 : decode cX7_walk 85 = .ok (.aaload, 1) := by decide +kernel
theorem dX7_walk_86 : decode cX7_walk 86 = .ok (.bipush 6, 2) := by decide +kernel
theorem dX7_walk_88 : decode cX7_walk 88 = .ok (.iaload, 1) := by decide +kernel
theorem dX7_walk_89 : decode cX7_walk 89 = .ok (.invokestatic 150, 3) := by decide +kernel
theorem dX7_walk_92 : decode cX7_walk 92 = .ok (.istore 4, 2) := by decide +kernel
theorem dX7_walk_94 : decode cX7_walk 94 = .ok (.iload 4, 2) := by decide +kernel
theorem dX7_walk_96 : decode cX7_walk 96 = .ok (.ifCond .eq 18, 3) := by decide +kernel
theorem dX7_walk_99 : decode cX7_walk 99 = .ok (.iload_n 2, 1) := by decide +kernel
theorem dX7_walk_100 : decode cX7_walk 100 = .ok (.bipush 36, 2) := by decide +kernel
theorem dX7_walk_102 : decode cX7_walk 102 = .ok (.imul, 1) := by decide +kernel
theorem dX7_walk_103 : decode cX7_walk 103 = .ok (.bipush 10, 2) := by decide +kernel
theorem dX7_walk_105 : decode cX7_walk 105 = .ok (.iload 4, 2) := by decide +kernel
theorem dX7_walk_107 : decode cX7_walk 107 = .ok (.imul, 1) := by decide +kernel
theorem dX7_walk_108 : decode cX7_walk 108 = .ok (.idiv, 1) := by decide +kernel
theorem dX7_walk_109 : decode cX7_walk 109 = .ok (.bipush 25, 2) := by decide +kernel
theorem dX7_walk_111 : decode cX7_walk 111 = .ok (.if_icmp .lt 7, 3) := by decide +kernel
theorem dX7_walk_114 : decode cX7_walk 114 = .ok (.iconst 1, 1) := by decide +kernel
theorem dX7_walk_115 : decode cX7_walk 115 = .ok (.goto 4, 3) := by decide +kernel
theorem dX7_walk_118 : decode cX7_walk 118 = .ok (.iconst 0, 1) := by decide +kernel
theorem dX7_walk_119 : decode cX7_walk 119 = .ok (.istore 5, 2) := by decide +kernel
theorem dX7_walk_121 : decode cX7_walk 121 = .ok (.aload_n 0, 1) := by decide +kernel
theorem dX7_walk_122 : decode cX7_walk 122 = .ok (.dup, 1) := by decide +kernel
theorem dX7_walk_123 : decode cX7_walk 123 = .ok (.getfield 168, 3) := by decide +kernel
theorem dX7_walk_126 : decode cX7_walk 126 = .ok (.iload 5, 2) := by decide +kernel
theorem dX7_walk_128 : decode cX7_walk 128 = .ok (.ifCond .eq 7, 3) := by decide +kernel
theorem dX7_walk_131 : decode cX7_walk 131 = .ok (.iconst 0, 1) := by decide +kernel
theorem dX7_walk_132 : decode cX7_walk 132 = .ok (.goto 4, 3) := by decide +kernel
theorem dX7_walk_135 : decode cX7_walk 135 = .ok (.iconst 1, 1) := by decide +kernel
theorem dX7_walk_136 : decode cX7_walk 136 = .ok (.iadd, 1) := by decide +kernel
theorem dX7_walk_137 : decode cX7_walk 137 = .ok (.putfield 168, 3) := by decide +kernel
theorem dX7_walk_140 : decode cX7_walk 140 = .ok (.iload 5, 2) := by decide +kernel
theorem dX7_walk_142 : decode cX7_walk 142 = .ok (.ireturn, 1) := by decide +kernel
theorem dX7_ofSectionNow_0 : decode cX7_ofSectionNow 0 = .ok (.iload_n 2, 1) := by decide +kernel
theorem dX7_ofSectionNow_1 : decode cX7_ofSectionNow 1 = .ok (.bipush 7, 2) := by decide +kernel
theorem dX7_ofSectionNow_3 : decode cX7_ofSectionNow 3 = .ok (.if_icmp .ge 14, 3) := by decide +kernel
theorem dX7_ofSectionNow_6 : decode cX7_ofSectionNow 6 = .ok (.aload_n 0, 1) := by decide +kernel
theorem dX7_ofSectionNow_7 : decode cX7_ofSectionNow 7 = .ok (.getfield 11, 3) := by decide +kernel
theorem dX7_ofSectionNow_10 : decode cX7_ofSectionNow 10 = .ok (.iload_n 1, 1) := by decide +kernel
theorem dX7_ofSectionNow_11 : decode cX7_ofSectionNow 11 = .ok (.aaload, 1) := by decide +kernel
theorem dX7_ofSectionNow_12 : decode cX7_ofSectionNow 12 = .ok (.iload_n 2, 1) := by decide +kernel
theorem dX7_ofSectionNow_13 : decode cX7_ofSectionNow 13 = .ok (.iaload, 1) := by decide +kernel
theorem dX7_ofSectionNow_14 : decode cX7_ofSectionNow 14 = .ok (.goto 16, 3) := by decide +kernel
theorem dX7_ofSectionNow_17 : decode cX7_ofSectionNow 17 = .ok (.aload_n 0, 1) := by decide +kernel
theorem dX7_ofSectionNow_18 : decode cX7_ofSectionNow 18 = .ok (.getfield 11, 3) := by decide +kernel
theorem dX7_ofSectionNow_21 : decode cX7_ofSectionNow 21 = .ok (.iload_n 1, 1) := by decide +kernel
theorem dX7_ofSectionNow_22 : decode cX7_ofSectionNow 22 = .ok (.aaload, 1) := by decide +kernel
theorem dX7_ofSectionNow_23 : decode cX7_ofSectionNow 23 = .ok (.aload_n 0, 1) := by decide +kernel
theorem dX7_ofSectionNow_24 : decode cX7_ofSectionNow 24 = .ok (.getfield 27, 3) := by decide +kernel
theorem dX7_ofSectionNow_27 : decode cX7_ofSectionNow 27 = .ok (.invokestatic 44, 3) := by decide +kernel
theorem dX7_ofSectionNow_30 : decode cX7_ofSectionNow 30 = .ok (.ireturn, 1) := by decide +kernel
theorem dX7_ofSection_0 : decode cX7_ofSection 0 = .ok (.aload_n 0, 1) := by decide +kernel
theorem dX7_ofSection_1 : decode cX7_ofSection 1 = .ok (.iconst 0, 1) := by decide +kernel
theorem dX7_ofSection_2 : decode cX7_ofSection 2 = .ok (.putfield 31, 3) := by decide +kernel
theorem dX7_ofSection_5 : decode cX7_ofSection 5 = .ok (.iload_n 1, 1) := by decide +kernel
theorem dX7_ofSection_6 : decode cX7_ofSection 6 = .ok (.invokestatic 72, 3) := by decide +kernel
theorem dX7_ofSection_9 : decode cX7_ofSection 9 = .ok (.ifCond .ne 9, 3) := by decide +kernel
theorem dX7_ofSection_12 : decode cX7_ofSection 12 = .ok (.aload_n 0, 1) := by decide +kernel
theorem dX7_ofSection_13 : decode cX7_ofSection 13 = .ok (.iconst 1, 1) := by decide +kernel
theorem dX7_ofSection_14 : decode cX7_ofSection 14 = .ok (.invokevirtual 76, 3) := by decide +kernel
theorem dX7_ofSection_17 : decode cX7_ofSection 17 = .ok (.ireturn, 1) := by decide +kernel
theorem dX7_ofSection_18 : decode cX7_ofSection 18 = .ok (.iload_n 2, 1) := by decide +kernel
theorem dX7_ofSection_19 : decode cX7_ofSection 19 = .ok (.iconst 0, 1) := by decide +kernel
theorem dX7_ofSection_20 : decode cX7_ofSection 20 = .ok (.bipush 7, 2) := by decide +kernel
theorem dX7_ofSection_22 : decode cX7_ofSection 22 = .ok (.invokestatic 68, 3) := by decide +kernel
theorem dX7_ofSection_25 : decode cX7_ofSection 25 = .ok (.ifCond .eq 12, 3) := by decide +kernel
theorem dX7_ofSection_28 : decode cX7_ofSection 28 = .ok (.aload_n 0, 1) := by decide +kernel
theorem dX7_ofSection_29 : decode cX7_ofSection 29 = .ok (.iload_n 1, 1) := by decide +kernel
theorem dX7_ofSection_30 : decode cX7_ofSection 30 = .ok (.iload_n 2, 1) := by decide +kernel
theorem dX7_ofSection_31 : decode cX7_ofSection 31 = .ok (.invokevirtual 171, 3) := by decide +kernel
theorem dX7_ofSection_34 : decode cX7_ofSection 34 = .ok (.goto 8, 3) := by decide +kernel
theorem dX7_ofSection_37 : decode cX7_ofSection 37 = .ok (.aload_n 0, 1) := by decide +kernel
theorem dX7_ofSection_38 : decode cX7_ofSection 38 = .ok (.iconst 2, 1) := by decide +kernel
theorem dX7_ofSection_39 : decode cX7_ofSection 39 = .ok (.invokevirtual 76, 3) := by decide +kernel
theorem dX7_ofSection_42 : decode cX7_ofSection 42 = .ok (.ireturn, 1) := by decide +kernel
theorem dX7_knownNow_0 : decode cX7_knownNow 0 = .ok (.iload_n 2, 1) := by decide +kernel
theorem dX7_knownNow_1 : decode cX7_knownNow 1 = .ok (.iconst 4, 1) := by decide +kernel
theorem dX7_knownNow_2 : decode cX7_knownNow 2 = .ok (.if_icmp .ne 9, 3) := by decide +kernel
theorem dX7_knownNow_5 : decode cX7_knownNow 5 = .ok (.aload_n 0, 1) := by decide +kernel
theorem dX7_knownNow_6 : decode cX7_knownNow 6 = .ok (.iload_n 1, 1) := by decide +kernel
theorem dX7_knownNow_7 : decode cX7_knownNow 7 = .ok (.invokevirtual 48, 3) := by decide +kernel
theorem dX7_knownNow_10 : decode cX7_knownNow 10 = .ok (.ireturn, 1) := by decide +kernel
theorem dX7_knownNow_11 : decode cX7_knownNow 11 = .ok (.aload_n 0, 1) := by decide +kernel
theorem dX7_knownNow_12 : decode cX7_knownNow 12 = .ok (.iload_n 1, 1) := by decide +kernel
theorem dX7_knownNow_13 : decode cX7_knownNow 13 = .ok (.invokevirtual 174, 3) := by decide +kernel
theorem dX7_knownNow_16 : decode cX7_knownNow 16 = .ok (.astore_n 3, 1) := by decide +kernel
theorem dX7_knownNow_17 : decode cX7_knownNow 17 = .ok (.iload_n 2, 1) := by decide +kernel
theorem dX7_knownNow_18 : decode cX7_knownNow 18 = .ok (.iconst 3, 1) := by decide +kernel
theorem dX7_knownNow_19 : decode cX7_knownNow 19 = .ok (.if_icmp .ge 9, 3) := by decide +kernel
theorem dX7_knownNow_22 : decode cX7_knownNow 22 = .ok (.aload_n 3, 1) := by decide +kernel
theorem dX7_knownNow_23 : decode cX7_knownNow 23 = .ok (.iload_n 2, 1) := by decide +kernel
theorem dX7_knownNow_24 : decode cX7_knownNow 24 = .ok (.iaload, 1) := by decide +kernel
theorem dX7_knownNow_25 : decode cX7_knownNow 25 = .ok (.goto 11, 3) := by decide +kernel
theorem dX7_knownNow_28 : decode cX7_knownNow 28 = .ok (.aload_n 3, 1) := by decide +kernel
theorem dX7_knownNow_29 : decode cX7_knownNow 29 = .ok (.aload_n 0, 1) := by decide +kernel
theorem dX7_knownNow_30 : decode cX7_knownNow 30 = .ok (.getfield 27, 3) := by decide +kernel
theorem dX7_knownNow_33 : decode cX7_knownNow 33 = .ok (.invokestatic 44, 3) := by decide +kernel
theorem dX7_knownNow_36 : decode cX7_knownNow 36 = .ok (.ireturn, 1) := by decide +kernel
theorem dX7_known_0 : decode cX7_known 0 = .ok (.aload_n 0, 1) := by decide +kernel
theorem dX7_known_1 : decode cX7_known 1 = .ok (.iconst 0, 1) := by decide +kernel
theorem dX7_known_2 : decode cX7_known 2 = .ok (.putfield 31, 3) := by decide +kernel
theorem dX7_known_5 : decode cX7_known 5 = .ok (.iload_n 1, 1) := by decide +kernel
theorem dX7_known_6 : decode cX7_known 6 = .ok (.invokestatic 72, 3) := by decide +kernel
theorem dX7_known_9 : decode cX7_known 9 = .ok (.ifCond .ne 9, 3) := by decide +kernel
theorem dX7_known_12 : decode cX7_known 12 = .ok (.aload_n 0, 1) := by decide +kernel
theorem dX7_known_13 : decode cX7_known 13 = .ok (.iconst 1, 1) := by decide +kernel
theorem dX7_known_14 : decode cX7_known 14 = .ok (.invokevirtual 76, 3) := by decide +kernel
theorem dX7_known_17 : decode cX7_known 17 = .ok (.ireturn, 1) := by decide +kernel
theorem dX7_known_18 : decode cX7_known 18 = .ok (.iload_n 2, 1) := by decide +kernel
theorem dX7_known_19 : decode cX7_known 19 = .ok (.iconst 0, 1) := by decide +kernel
theorem dX7_known_20 : decode cX7_known 20 = .ok (.iconst 4, 1) := by decide +kernel
theorem dX7_known_21 : decode cX7_known 21 = .ok (.invokestatic 68, 3) := by decide +kernel
theorem dX7_known_24 : decode cX7_known 24 = .ok (.ifCond .eq 12, 3) := by decide +kernel
theorem dX7_known_27 : decode cX7_known 27 = .ok (.aload_n 0, 1) := by decide +kernel
theorem dX7_known_28 : decode cX7_known 28 = .ok (.iload_n 1, 1) := by decide +kernel
theorem dX7_known_29 : decode cX7_known 29 = .ok (.iload_n 2, 1) := by decide +kernel
theorem dX7_known_30 : decode cX7_known 30 = .ok (.invokevirtual 178, 3) := by decide +kernel
theorem dX7_known_33 : decode cX7_known 33 = .ok (.goto 8, 3) := by decide +kernel
theorem dX7_known_36 : decode cX7_known 36 = .ok (.aload_n 0, 1) := by decide +kernel
theorem dX7_known_37 : decode cX7_known 37 = .ok (.iconst 2, 1) := by decide +kernel
theorem dX7_known_38 : decode cX7_known 38 = .ok (.invokevirtual 76, 3) := by decide +kernel
theorem dX7_known_41 : decode cX7_known 41 = .ok (.ireturn, 1) := by decide +kernel
theorem dX7_whyNow_0 : decode cX7_whyNow 0 = .ok (.iload_n 2, 1) := by decide +kernel
theorem dX7_whyNow_1 : decode cX7_whyNow 1 = .ok (.ifCond .eq 11, 3) := by decide +kernel
theorem dX7_whyNow_4 : decode cX7_whyNow 4 = .ok (.aload_n 0, 1) := by decide +kernel
theorem dX7_whyNow_5 : decode cX7_whyNow 5 = .ok (.iload_n 1, 1) := by decide +kernel
theorem dX7_whyNow_6 : decode cX7_whyNow 6 = .ok (.invokevirtual 174, 3) := by decide +kernel
theorem dX7_whyNow_9 : decode cX7_whyNow 9 = .ok (.goto 9, 3) := by decide +kernel
theorem dX7_whyNow_12 : decode cX7_whyNow 12 = .ok (.aload_n 0, 1) := by decide +kernel
theorem dX7_whyNow_13 : decode cX7_whyNow 13 = .ok (.getfield 11, 3) := by decide +kernel
theorem dX7_whyNow_16 : decode cX7_whyNow 16 = .ok (.iload_n 1, 1) := by decide +kernel
theorem dX7_whyNow_17 : decode cX7_whyNow 17 = .ok (.aaload, 1) := by decide +kernel
theorem dX7_whyNow_18 : decode cX7_whyNow 18 = .ok (.aload_n 0, 1) := by decide +kernel
theorem dX7_whyNow_19 : decode cX7_whyNow 19 = .ok (.getfield 27, 3) := by decide +kernel
theorem dX7_whyNow_22 : decode cX7_whyNow 22 = .ok (.invokestatic 181, 3) := by decide +kernel
theorem dX7_whyNow_25 : decode cX7_whyNow 25 = .ok (.ireturn, 1) := by decide +kernel
theorem dX7_why_0 : decode cX7_why 0 = .ok (.aload_n 0, 1) := by decide +kernel
theorem dX7_why_1 : decode cX7_why 1 = .ok (.iconst 0, 1) := by decide +kernel
theorem dX7_why_2 : decode cX7_why 2 = .ok (.putfield 31, 3) := by decide +kernel
theorem dX7_why_5 : decode cX7_why 5 = .ok (.iload_n 1, 1) := by decide +kernel
theorem dX7_why_6 : decode cX7_why 6 = .ok (.invokestatic 72, 3) := by decide +kernel
theorem dX7_why_9 : decode cX7_why 9 = .ok (.ifCond .eq 12, 3) := by decide +kernel
theorem dX7_why_12 : decode cX7_why 12 = .ok (.aload_n 0, 1) := by decide +kernel
theorem dX7_why_13 : decode cX7_why 13 = .ok (.iload_n 1, 1) := by decide +kernel
theorem dX7_why_14 : decode cX7_why 14 = .ok (.iload_n 2, 1) := by decide +kernel
theorem dX7_why_15 : decode cX7_why 15 = .ok (.invokevirtual 184, 3) := by decide +kernel
theorem dX7_why_18 : decode cX7_why 18 = .ok (.goto 8, 3) := by decide +kernel
theorem dX7_why_21 : decode cX7_why 21 = .ok (.aload_n 0, 1) := by decide +kernel
theorem dX7_why_22 : decode cX7_why 22 = .ok (.iconst 1, 1) := by decide +kernel
theorem dX7_why_23 : decode cX7_why 23 = .ok (.invokevirtual 76, 3) := by decide +kernel
theorem dX7_why_26 : decode cX7_why 26 = .ok (.ireturn, 1) := by decide +kernel
theorem dX7_ofMachine_0 : decode cX7_ofMachine 0 = .ok (.aload_n 0, 1) := by decide +kernel
theorem dX7_ofMachine_1 : decode cX7_ofMachine 1 = .ok (.iconst 0, 1) := by decide +kernel
theorem dX7_ofMachine_2 : decode cX7_ofMachine 2 = .ok (.putfield 31, 3) := by decide +kernel
theorem dX7_ofMachine_5 : decode cX7_ofMachine 5 = .ok (.aload_n 0, 1) := by decide +kernel
theorem dX7_ofMachine_6 : decode cX7_ofMachine 6 = .ok (.iload_n 1, 1) := by decide +kernel
theorem dX7_ofMachine_7 : decode cX7_ofMachine 7 = .ok (.invokevirtual 125, 3) := by decide +kernel
theorem dX7_ofMachine_10 : decode cX7_ofMachine 10 = .ok (.ifCond .ne 9, 3) := by decide +kernel
theorem dX7_ofMachine_13 : decode cX7_ofMachine 13 = .ok (.aload_n 0, 1) := by decide +kernel
theorem dX7_ofMachine_14 : decode cX7_ofMachine 14 = .ok (.iconst 1, 1) := by decide +kernel
theorem dX7_ofMachine_15 : decode cX7_ofMachine 15 = .ok (.invokevirtual 76, 3) := by decide +kernel
theorem dX7_ofMachine_18 : decode cX7_ofMachine 18 = .ok (.ireturn, 1) := by decide +kernel
theorem dX7_ofMachine_19 : decode cX7_ofMachine 19 = .ok (.iload_n 2, 1) := by decide +kernel
theorem dX7_ofMachine_20 : decode cX7_ofMachine 20 = .ok (.iconst 0, 1) := by decide +kernel
theorem dX7_ofMachine_21 : decode cX7_ofMachine 21 = .ok (.iconst 3, 1) := by decide +kernel
theorem dX7_ofMachine_22 : decode cX7_ofMachine 22 = .ok (.invokestatic 68, 3) := by decide +kernel
theorem dX7_ofMachine_25 : decode cX7_ofMachine 25 = .ok (.ifCond .eq 19, 3) := by decide +kernel
theorem dX7_ofMachine_28 : decode cX7_ofMachine 28 = .ok (.aload_n 0, 1) := by decide +kernel
theorem dX7_ofMachine_29 : decode cX7_ofMachine 29 = .ok (.getfield 17, 3) := by decide +kernel
theorem dX7_ofMachine_32 : decode cX7_ofMachine 32 = .ok (.iload_n 1, 1) := by decide +kernel
theorem dX7_ofMachine_33 : decode cX7_ofMachine 33 = .ok (.invokevirtual 52, 3) := by decide +kernel
theorem dX7_ofMachine_36 : decode cX7_ofMachine 36 = .ok (.checkcast 56, 3) := by decide +kernel
theorem dX7_ofMachine_39 : decode cX7_ofMachine 39 = .ok (.iload_n 2, 1) := by decide +kernel
theorem dX7_ofMachine_40 : decode cX7_ofMachine 40 = .ok (.iaload, 1) := by decide +kernel
theorem dX7_ofMachine_41 : decode cX7_ofMachine 41 = .ok (.goto 8, 3) := by decide +kernel
theorem dX7_ofMachine_44 : decode cX7_ofMachine 44 = .ok (.aload_n 0, 1) := by decide +kernel
theorem dX7_ofMachine_45 : decode cX7_ofMachine 45 = .ok (.iconst 2, 1) := by decide +kernel
theorem dX7_ofMachine_46 : decode cX7_ofMachine 46 = .ok (.invokevirtual 76, 3) := by decide +kernel
theorem dX7_ofMachine_49 : decode cX7_ofMachine 49 = .ok (.ireturn, 1) := by decide +kernel
theorem dX7_ofNightNow_0 : decode cX7_ofNightNow 0 = .ok (.iload_n 2, 1) := by decide +kernel
theorem dX7_ofNightNow_1 : decode cX7_ofNightNow 1 = .ok (.bipush 8, 2) := by decide +kernel
theorem dX7_ofNightNow_3 : decode cX7_ofNightNow 3 = .ok (.if_icmp .ne 23, 3) := by decide +kernel
theorem dX7_ofNightNow_6 : decode cX7_ofNightNow 6 = .ok (.aload_n 0, 1) := by decide +kernel
theorem dX7_ofNightNow_7 : decode cX7_ofNightNow 7 = .ok (.getfield 21, 3) := by decide +kernel
theorem dX7_ofNightNow_10 : decode cX7_ofNightNow 10 = .ok (.iload_n 1, 1) := by decide +kernel
theorem dX7_ofNightNow_11 : decode cX7_ofNightNow 11 = .ok (.invokevirtual 52, 3) := by decide +kernel
theorem dX7_ofNightNow_14 : decode cX7_ofNightNow 14 = .ok (.checkcast 56, 3) := by decide +kernel
theorem dX7_ofNightNow_17 : decode cX7_ofNightNow 17 = .ok (.bipush 8, 2) := by decide +kernel
theorem dX7_ofNightNow_19 : decode cX7_ofNightNow 19 = .ok (.iaload, 1) := by decide +kernel
theorem dX7_ofNightNow_20 : decode cX7_ofNightNow 20 = .ok (.invokestatic 145, 3) := by decide +kernel
theorem dX7_ofNightNow_23 : decode cX7_ofNightNow 23 = .ok (.goto 16, 3) := by decide +kernel
theorem dX7_ofNightNow_26 : decode cX7_ofNightNow 26 = .ok (.aload_n 0, 1) := by decide +kernel
theorem dX7_ofNightNow_27 : decode cX7_ofNightNow 27 = .ok (.getfield 21, 3) := by decide +kernel
theorem dX7_ofNightNow_30 : decode cX7_ofNightNow 30 = .ok (.iload_n 1, 1) := by decide +kernel
theorem dX7_ofNightNow_31 : decode cX7_ofNightNow 31 = .ok (.invokevirtual 52, 3) := by decide +kernel
theorem dX7_ofNightNow_34 : decode cX7_ofNightNow 34 = .ok (.checkcast 56, 3) := by decide +kernel
theorem dX7_ofNightNow_37 : decode cX7_ofNightNow 37 = .ok (.iload_n 2, 1) := by decide +kernel
theorem dX7_ofNightNow_38 : decode cX7_ofNightNow 38 = .ok (.iaload, 1) := by decide +kernel
theorem dX7_ofNightNow_39 : decode cX7_ofNightNow 39 = .ok (.ireturn, 1) := by decide +kernel
theorem dX7_ofPossession_0 : decode cX7_ofPossession 0 = .ok (.aload_n 0, 1) := by decide +kernel
theorem dX7_ofPossession_1 : decode cX7_ofPossession 1 = .ok (.iconst 0, 1) := by decide +kernel
theorem dX7_ofPossession_2 : decode cX7_ofPossession 2 = .ok (.putfield 31, 3) := by decide +kernel
theorem dX7_ofPossession_5 : decode cX7_ofPossession 5 = .ok (.aload_n 0, 1) := by decide +kernel
theorem dX7_ofPossession_6 : decode cX7_ofPossession 6 = .ok (.iload_n 1, 1) := by decide +kernel
theorem dX7_ofPossession_7 : decode cX7_ofPossession 7 = .ok (.invokevirtual 136, 3) := by decide +kernel
theorem dX7_ofPossession_10 : decode cX7_ofPossession 10 = .ok (.ifCond .ne 9, 3) := by decide +kernel
theorem dX7_ofPossession_13 : decode cX7_ofPossession 13 = .ok (.aload_n 0, 1) := by decide +kernel
theorem dX7_ofPossession_14 : decode cX7_ofPossession 14 = .ok (.iconst 1, 1) := by decide +kernel
theorem dX7_ofPossession_15 : decode cX7_ofPossession 15 = .ok (.invokevirtual 76, 3) := by decide +kernel
theorem dX7_ofPossession_18 : decode cX7_ofPossession 18 = .ok (.ireturn, 1) := by decide +kernel
theorem dX7_ofPossession_19 : decode cX7_ofPossession 19 = .ok (.iload_n 2, 1) := by decide +kernel
theorem dX7_ofPossession_20 : decode cX7_ofPossession 20 = .ok (.iconst 0, 1) := by decide +kernel
theorem dX7_ofPossession_21 : decode cX7_ofPossession 21 = .ok (.bipush 9, 2) := by decide +kernel
theorem dX7_ofPossession_23 : decode cX7_ofPossession 23 = .ok (.invokestatic 68, 3) := by decide +kernel
theorem dX7_ofPossession_26 : decode cX7_ofPossession 26 = .ok (.ifCond .eq 12, 3) := by decide +kernel
theorem dX7_ofPossession_29 : decode cX7_ofPossession 29 = .ok (.aload_n 0, 1) := by decide +kernel
theorem dX7_ofPossession_30 : decode cX7_ofPossession 30 = .ok (.iload_n 1, 1) := by decide +kernel
theorem dX7_ofPossession_31 : decode cX7_ofPossession 31 = .ok (.iload_n 2, 1) := by decide +kernel
theorem dX7_ofPossession_32 : decode cX7_ofPossession 32 = .ok (.invokevirtual 188, 3) := by decide +kernel
theorem dX7_ofPossession_35 : decode cX7_ofPossession 35 = .ok (.goto 8, 3) := by decide +kernel
theorem dX7_ofPossession_38 : decode cX7_ofPossession 38 = .ok (.aload_n 0, 1) := by decide +kernel
theorem dX7_ofPossession_39 : decode cX7_ofPossession 39 = .ok (.iconst 2, 1) := by decide +kernel
theorem dX7_ofPossession_40 : decode cX7_ofPossession 40 = .ok (.invokevirtual 76, 3) := by decide +kernel
theorem dX7_ofPossession_43 : decode cX7_ofPossession 43 = .ok (.ireturn, 1) := by decide +kernel
theorem dX7_manyNow_0 : decode cX7_manyNow 0 = .ok (.iconst 5, 1) := by decide +kernel
theorem dX7_manyNow_1 : decode cX7_manyNow 1 = .ok (.newarray .int, 2) := by decide +kernel
theorem dX7_manyNow_3 : decode cX7_manyNow 3 = .ok (.astore_n 2, 1) := by decide +kernel
theorem dX7_manyNow_4 : decode cX7_manyNow 4 = .ok (.iconst 0, 1) := by decide +kernel
theorem dX7_manyNow_5 : decode cX7_manyNow 5 = .ok (.istore_n 3, 1) := by decide +kernel
theorem dX7_manyNow_6 : decode cX7_manyNow 6 = .ok (.aload_n 0, 1) := by decide +kernel
theorem dX7_manyNow_7 : decode cX7_manyNow 7 = .ok (.getfield 21, 3) := by decide +kernel
theorem dX7_manyNow_10 : decode cX7_manyNow 10 = .ok (.invokevirtual 79, 3) := by decide +kernel
theorem dX7_manyNow_13 : decode cX7_manyNow 13 = .ok (.astore 4, 2) := by decide +kernel
theorem dX7_manyNow_15 : decode cX7_manyNow 15 = .ok (.aload 4, 2) := by decide +kernel
theorem dX7_manyNow_17 : decode cX7_manyNow 17 = .ok (.invokeinterface 83 1, 5) := by decide +kernel
theorem dX7_manyNow_22 : decode cX7_manyNow 22 = .ok (.ifCond .eq 36, 3) := by decide +kernel
theorem dX7_manyNow_25 : decode cX7_manyNow 25 = .ok (.aload 4, 2) := by decide +kernel
theorem dX7_manyNow_27 : decode cX7_manyNow 27 = .ok (.invokeinterface 89 1, 5) := by decide +kernel
theorem dX7_manyNow_32 : decode cX7_manyNow 32 = .ok (.checkcast 56, 3) := by decide +kernel
theorem dX7_manyNow_35 : decode cX7_manyNow 35 = .ok (.astore 5, 2) := by decide +kernel
theorem dX7_manyNow_37 : decode cX7_manyNow 37 = .ok (.aload_n 2, 1) := by decide +kernel
theorem dX7_manyNow_38 : decode cX7_manyNow 38 = .ok (.aload 5, 2) := by decide +kernel
theorem dX7_manyNow_40 : decode cX7_manyNow 40 = .ok (.iconst 0, 1) := by decide +kernel
theorem dX7_manyNow_41 : decode cX7_manyNow 41 = .ok (.iaload, 1) := by decide +kernel
theorem dX7_manyNow_42 : decode cX7_manyNow 42 = .ok (.dup2, 1) := by decide +kernel
theorem dX7_manyNow_43 : decode cX7_manyNow 43 = .ok (.iaload, 1) := by decide +kernel
theorem dX7_manyNow_44 : decode cX7_manyNow 44 = .ok (.iconst 1, 1) := by decide +kernel
theorem dX7_manyNow_45 : decode cX7_manyNow 45 = .ok (.iadd, 1) := by decide +kernel
theorem dX7_manyNow_46 : decode cX7_manyNow 46 = .ok (.iastore, 1) := by decide +kernel
theorem dX7_manyNow_47 : decode cX7_manyNow 47 = .ok (.iload_n 3, 1) := by decide +kernel
theorem dX7_manyNow_48 : decode cX7_manyNow 48 = .ok (.aload 5, 2) := by decide +kernel
theorem dX7_manyNow_50 : decode cX7_manyNow 50 = .ok (.bipush 9, 2) := by decide +kernel
theorem dX7_manyNow_52 : decode cX7_manyNow 52 = .ok (.iaload, 1) := by decide +kernel
theorem dX7_manyNow_53 : decode cX7_manyNow 53 = .ok (.iadd, 1) := by decide +kernel
theorem dX7_manyNow_54 : decode cX7_manyNow 54 = .ok (.istore_n 3, 1) := by decide +kernel
theorem dX7_manyNow_55 : decode cX7_manyNow 55 = .ok (.goto (-40), 3) := by decide +kernel
theorem dX7_manyNow_58 : decode cX7_manyNow 58 = .ok (.iconst 0, 1) := by decide +kernel
theorem dX7_manyNow_59 : decode cX7_manyNow 59 = .ok (.istore 4, 2) := by decide +kernel
theorem dX7_manyNow_61 : decode cX7_manyNow 61 = .ok (.aload_n 0, 1) := by decide +kernel
theorem dX7_manyNow_62 : decode cX7_manyNow 62 = .ok (.getfield 24, 3) := by decide +kernel
theorem dX7_manyNow_65 : decode cX7_manyNow 65 = .ok (.invokevirtual 79, 3) := by decide +kernel
theorem dX7_manyNow_68 : decode cX7_manyNow 68 = .ok (.astore 5, 2) := by decide +kernel
theorem dX7_manyNow_70 : decode cX7_manyNow 70 = .ok (.aload 5, 2) := by decide +kernel
theorem dX7_manyNow_72 : decode cX7_manyNow 72 = .ok (.invokeinterface 83 1, 5) := by decide +kernel
theorem dX7_manyNow_77 : decode cX7_manyNow 77 = .ok (.ifCond .eq 27, 3) := by decide +kernel
theorem dX7_manyNow_80 : decode cX7_manyNow 80 = .ok (.aload 5, 2) := by decide +kernel
theorem dX7_manyNow_82 : decode cX7_manyNow 82 = .ok (.invokeinterface 89 1, 5) := by decide +kernel
theorem dX7_manyNow_87 : decode cX7_manyNow 87 = .ok (.checkcast 56, 3) := by decide +kernel
theorem dX7_manyNow_90 : decode cX7_manyNow 90 = .ok (.astore 6, 2) := by decide +kernel
theorem dX7_manyNow_92 : decode cX7_manyNow 92 = .ok (.iload 4, 2) := by decide +kernel
theorem dX7_manyNow_94 : decode cX7_manyNow 94 = .ok (.aload 6, 2) := by decide +kernel
theorem dX7_manyNow_96 : decode cX7_manyNow 96 = .ok (.iconst 4, 1) := by decide +kernel
theorem dX7_manyNow_97 : decode cX7_manyNow 97 = .ok (.iaload, 1) := by decide +kernel
theorem dX7_manyNow_98 : decode cX7_manyNow 98 = .ok (.iadd, 1) := by decide +kernel
theorem dX7_manyNow_99 : decode cX7_manyNow 99 = .ok (.istore 4, 2) := by decide +kernel
theorem dX7_manyNow_101 : decode cX7_manyNow 101 = .ok (.goto (-31), 3) := by decide +kernel
theorem dX7_manyNow_104 : decode cX7_manyNow 104 = .ok (.iconst 0, 1) := by decide +kernel
theorem dX7_manyNow_105 : decode cX7_manyNow 105 = .ok (.istore 5, 2) := by decide +kernel
theorem dX7_manyNow_107 : decode cX7_manyNow 107 = .ok (.iconst 0, 1) := by decide +kernel
theorem dX7_manyNow_108 : decode cX7_manyNow 108 = .ok (.istore 6, 2) := by decide +kernel
theorem dX7_manyNow_110 : decode cX7_manyNow 110 = .ok (.iconst 0, 1) := by decide +kernel
theorem dX7_manyNow_111 : decode cX7_manyNow 111 = .ok (.istore 7, 2) := by decide +kernel
theorem dX7_manyNow_113 : decode cX7_manyNow 113 = .ok (.iload 7, 2) := by decide +kernel
theorem dX7_manyNow_115 : decode cX7_manyNow 115 = .ok (.bipush 20, 2) := by decide +kernel
theorem dX7_manyNow_117 : decode cX7_manyNow 117 = .ok (.if_icmp .ge 70, 3) := by decide +kernel
theorem dX7_manyNow_120 : decode cX7_manyNow 120 = .ok (.iload 5, 2) := by decide +kernel
theorem dX7_manyNow_122 : decode cX7_manyNow 122 = .ok (.aload_n 0, 1) := by decide +kernel
theorem dX7_manyNow_123 : decode cX7_manyNow 123 = .ok (.getfield 11, 3) := by decide +kernel
theorem dX7_manyNow_126 : decode cX7_manyNow 126 = .ok (.iload 7, 2) := by decide +kernel
theorem dX7_manyNow_128 : decode cX7_manyNow 128 = .ok (.aaload, 1) := by decide +kernel
theorem dX7_manyNow_129 : decode cX7_manyNow 129 = .ok (.bipush 6, 2) := by decide +kernel
theorem dX7_manyNow_131 : decode cX7_manyNow 131 = .ok (.iaload, 1) := by decide +kernel
theorem dX7_manyNow_132 : decode cX7_manyNow 132 = .ok (.aload_n 0, 1) := by decide +kernel
theorem dX7_manyNow_133 : decode cX7_manyNow 133 = .ok (.iload 7, 2) := by decide +kernel
theorem dX7_manyNow_135 : decode cX7_manyNow 135 = .ok (.bipush 7, 2) := by decide +kernel
theorem dX7_manyNow_137 : decode cX7_manyNow 137 = .ok (.invokevirtual 171, 3) := by decide +kernel
theorem dX7_manyNow_140 : decode cX7_manyNow 140 = .ok (.if_icmp .le 7, 3) := by decide +kernel
theorem dX7_manyNow_143 : decode cX7_manyNow 143 = .ok (.iconst 1, 1) := by decide +kernel
theorem dX7_manyNow_144 : decode cX7_manyNow 144 = .ok (.goto 4, 3) := by decide +kernel
theorem dX7_manyNow_147 : decode cX7_manyNow 147 = .ok (.iconst 0, 1) := by decide +kernel
theorem dX7_manyNow_148 : decode cX7_manyNow 148 = .ok (.iadd, 1) := by decide +kernel
theorem dX7_manyNow_149 : decode cX7_manyNow 149 = .ok (.istore 5, 2) := by decide +kernel
theorem dX7_manyNow_151 : decode cX7_manyNow 151 = .ok (.iload 6, 2) := by decide +kernel
theorem dX7_manyNow_153 : decode cX7_manyNow 153 = .ok (.aload_n 0, 1) := by decide +kernel
theorem dX7_manyNow_154 : decode cX7_manyNow 154 = .ok (.getfield 11, 3) := by decide +kernel
theorem dX7_manyNow_157 : decode cX7_manyNow 157 = .ok (.iload 7, 2) := by decide +kernel
theorem dX7_manyNow_159 : decode cX7_manyNow 159 = .ok (.aaload, 1) := by decide +kernel
theorem dX7_manyNow_160 : decode cX7_manyNow 160 = .ok (.bipush 6, 2) := by decide +kernel
theorem dX7_manyNow_162 : decode cX7_manyNow 162 = .ok (.iaload, 1) := by decide +kernel
theorem dX7_manyNow_163 : decode cX7_manyNow 163 = .ok (.aload_n 0, 1) := by decide +kernel
theorem dX7_manyNow_164 : decode cX7_manyNow 164 = .ok (.iload 7, 2) := by decide +kernel
theorem dX7_manyNow_166 : decode cX7_manyNow 166 = .ok (.iconst 3, 1) := by decide +kernel
theorem dX7_manyNow_167 : decode cX7_manyNow 167 = .ok (.invokevirtual 178, 3) := by decide +kernel
theorem dX7_manyNow_170 : decode cX7_manyNow 170 = .ok (.if_icmp .le 7, 3) := by decide +kernel
theorem dX7_manyNow_173 : decode cX7_manyNow 173 = .ok (.iconst 1, 1) := by decide +kernel
theorem dX7_manyNow_174 : decode cX7_manyNow 174 = .ok (.goto 4, 3) := by decide +kernel
theorem dX7_manyNow_177 : decode cX7_manyNow 177 = .ok (.iconst 0, 1) := by decide +kernel
theorem dX7_manyNow_178 : decode cX7_manyNow 178 = .ok (.iadd, 1) := by decide +kernel
theorem dX7_manyNow_179 : decode cX7_manyNow 179 = .ok (.istore 6, 2) := by decide +kernel
theorem dX7_manyNow_181 : decode cX7_manyNow 181 = .ok (.iinc 7 1, 3) := by decide +kernel
theorem dX7_manyNow_184 : decode cX7_manyNow 184 = .ok (.goto (-71), 3) := by decide +kernel
theorem dX7_manyNow_187 : decode cX7_manyNow 187 = .ok (.bipush 17, 2) := by decide +kernel
theorem dX7_manyNow_189 : decode cX7_manyNow 189 = .ok (.newarray .int, 2) := by decide +kernel
theorem dX7_manyNow_191 : decode cX7_manyNow 191 = .ok (.dup, 1) := by decide +kernel
theorem dX7_manyNow_192 : decode cX7_manyNow 192 = .ok (.iconst 0, 1) := by decide +kernel
theorem dX7_manyNow_193 : decode cX7_manyNow 193 = .ok (.aload_n 0, 1) := by decide +kernel
theorem dX7_manyNow_194 : decode cX7_manyNow 194 = .ok (.getfield 93, 3) := by decide +kernel
theorem dX7_manyNow_197 : decode cX7_manyNow 197 = .ok (.iastore, 1) := by decide +kernel
theorem dX7_manyNow_198 : decode cX7_manyNow 198 = .ok (.dup, 1) := by decide +kernel
theorem dX7_manyNow_199 : decode cX7_manyNow 199 = .ok (.iconst 1, 1) := by decide +kernel
theorem dX7_manyNow_200 : decode cX7_manyNow 200 = .ok (.aload_n 0, 1) := by decide +kernel
theorem dX7_manyNow_201 : decode cX7_manyNow 201 = .ok (.getfield 17, 3) := by decide +kernel
theorem dX7_manyNow_204 : decode cX7_manyNow 204 = .ok (.invokevirtual 64, 3) := by decide +kernel
theorem dX7_manyNow_207 : decode cX7_manyNow 207 = .ok (.iastore, 1) := by decide +kernel
theorem dX7_manyNow_208 : decode cX7_manyNow 208 = .ok (.dup, 1) := by decide +kernel
theorem dX7_manyNow_209 : decode cX7_manyNow 209 = .ok (.iconst 2, 1) := by decide +kernel
theorem dX7_manyNow_210 : decode cX7_manyNow 210 = .ok (.aload_n 0, 1) := by decide +kernel
theorem dX7_manyNow_211 : decode cX7_manyNow 211 = .ok (.getfield 24, 3) := by decide +kernel
theorem dX7_manyNow_214 : decode cX7_manyNow 214 = .ok (.invokevirtual 64, 3) := by decide +kernel
theorem dX7_manyNow_217 : decode cX7_manyNow 217 = .ok (.iastore, 1) := by decide +kernel
theorem dX7_manyNow_218 : decode cX7_manyNow 218 = .ok (.dup, 1) := by decide +kernel
theorem dX7_manyNow_219 : decode cX7_manyNow 219 = .ok (.iconst 3, 1) := by decide +kernel
theorem dX7_manyNow_220 : decode cX7_manyNow 220 = .ok (.iload 4, 2) := by decide +kernel
theorem dX7_manyNow_222 : decode cX7_manyNow 222 = .ok (.iastore, 1) := by decide +kernel
theorem dX7_manyNow_223 : decode cX7_manyNow 223 = .ok (.dup, 1) := by decide +kernel
theorem dX7_manyNow_224 : decode cX7_manyNow 224 = .ok (.iconst 4, 1) := by decide +kernel
theorem dX7_manyNow_225 : decode cX7_manyNow 225 = .ok (.aload_n 2, 1) := by decide +kernel
theorem dX7_manyNow_226 : decode cX7_manyNow 226 = .ok (.iconst 0, 1) := by decide +kernel
theorem dX7_manyNow_227 : decode cX7_manyNow 227 = .ok (.iaload, 1) := by decide +kernel
theorem dX7_manyNow_228 : decode cX7_manyNow 228 = .ok (.iastore, 1) := by decide +kernel
theorem dX7_manyNow_229 : decode cX7_manyNow 229 = .ok (.dup, 1) := by decide +kernel
theorem dX7_manyNow_230 : decode cX7_manyNow 230 = .ok (.iconst 5, 1) := by decide +kernel
theorem dX7_manyNow_231 : decode cX7_manyNow 231 = .ok (.aload_n 2, 1) := by decide +kernel
theorem dX7_manyNow_232 : decode cX7_manyNow 232 = .ok (.iconst 1, 1) := by decide +kernel
theorem dX7_manyNow_233 : decode cX7_manyNow 233 = .ok (.iaload, 1) := by decide +kernel
theorem dX7_manyNow_234 : decode cX7_manyNow 234 = .ok (.iastore, 1) := by decide +kernel
theorem dX7_manyNow_235 : decode cX7_manyNow 235 = .ok (.dup, 1) := by decide +kernel
theorem dX7_manyNow_236 : decode cX7_manyNow 236 = .ok (.bipush 6, 2) := by decide +kernel
theorem dX7_manyNow_238 : decode cX7_manyNow 238 = .ok (.aload_n 2, 1) := by decide +kernel
theorem dX7_manyNow_239 : decode cX7_manyNow 239 = .ok (.iconst 2, 1) := by decide +kernel
theorem dX7_manyNow_240 : decode cX7_manyNow 240 = .ok (.iaload, 1) := by decide +kernel
theorem dX7_manyNow_241 : decode cX7_manyNow 241 = .ok (.iastore, 1) := by decide +kernel
theorem dX7_manyNow_242 : decode cX7_manyNow 242 = .ok (.dup, 1) := by decide +kernel
theorem dX7_manyNow_243 : decode cX7_manyNow 243 = .ok (.bipush 7, 2) := by decide +kernel
theorem dX7_manyNow_245 : decode cX7_manyNow 245 = .ok (.aload_n 2, 1) := by decide +kernel
theorem dX7_manyNow_246 : decode cX7_manyNow 246 = .ok (.iconst 3, 1) := by decide +kernel
theorem dX7_manyNow_247 : decode cX7_manyNow 247 = .ok (.iaload, 1) := by decide +kernel
theorem dX7_manyNow_248 : decode cX7_manyNow 248 = .ok (.iastore, 1) := by decide +kernel
theorem dX7_manyNow_249 : decode cX7_manyNow 249 = .ok (.dup, 1) := by decide +kernel
theorem dX7_manyNow_250 : decode cX7_manyNow 250 = .ok (.bipush 8, 2) := by decide +kernel
theorem dX7_manyNow_252 : decode cX7_manyNow 252 = .ok (.aload_n 2, 1) := by decide +kernel
theorem dX7_manyNow_253 : decode cX7_manyNow 253 = .ok (.iconst 4, 1) := by decide +kernel
theorem dX7_manyNow_254 : decode cX7_manyNow 254 = .ok (.iaload, 1) := by decide +kernel
theorem dX7_manyNow_255 : decode cX7_manyNow 255 = .ok (.iastore, 1) := by decide +kernel
theorem dX7_manyNow_256 : decode cX7_manyNow 256 = .ok (.dup, 1) := by decide +kernel
theorem dX7_manyNow_257 : decode cX7_manyNow 257 = .ok (.bipush 9, 2) := by decide +kernel
theorem dX7_manyNow_259 : decode cX7_manyNow 259 = .ok (.aload_n 0, 1) := by decide +kernel
theorem dX7_manyNow_260 : decode cX7_manyNow 260 = .ok (.getfield 103, 3) := by decide +kernel
theorem dX7_manyNow_263 : decode cX7_manyNow 263 = .ok (.iastore, 1) := by decide +kernel
theorem dX7_manyNow_264 : decode cX7_manyNow 264 = .ok (.dup, 1) := by decide +kernel
theorem dX7_manyNow_265 : decode cX7_manyNow 265 = .ok (.bipush 10, 2) := by decide +kernel
theorem dX7_manyNow_267 : decode cX7_manyNow 267 = .ok (.aload_n 0, 1) := by decide +kernel
theorem dX7_manyNow_268 : decode cX7_manyNow 268 = .ok (.getfield 109, 3) := by decide +kernel
theorem dX7_manyNow_271 : decode cX7_manyNow 271 = .ok (.iastore, 1) := by decide +kernel
theorem dX7_manyNow_272 : decode cX7_manyNow 272 = .ok (.dup, 1) := by decide +kernel
theorem dX7_manyNow_273 : decode cX7_manyNow 273 = .ok (.bipush 11, 2) := by decide +kernel
theorem dX7_manyNow_275 : decode cX7_manyNow 275 = .ok (.aload_n 0, 1) := by decide +kernel
theorem dX7_manyNow_276 : decode cX7_manyNow 276 = .ok (.getfield 106, 3) := by decide +kernel
theorem dX7_manyNow_279 : decode cX7_manyNow 279 = .ok (.iastore, 1) := by decide +kernel
theorem dX7_manyNow_280 : decode cX7_manyNow 280 = .ok (.dup, 1) := by decide +kernel
theorem dX7_manyNow_281 : decode cX7_manyNow 281 = .ok (.bipush 12, 2) := by decide +kernel
theorem dX7_manyNow_283 : decode cX7_manyNow 283 = .ok (.aload_n 0, 1) := by decide +kernel
theorem dX7_manyNow_284 : decode cX7_manyNow 284 = .ok (.getfield 168, 3) := by decide +kernel
theorem dX7_manyNow_287 : decode cX7_manyNow 287 = .ok (.iastore, 1) := by decide +kernel
theorem dX7_manyNow_288 : decode cX7_manyNow 288 = .ok (.dup, 1) := by decide +kernel
theorem dX7_manyNow_289 : decode cX7_manyNow 289 = .ok (.bipush 13, 2) := by decide +kernel
theorem dX7_manyNow_291 : decode cX7_manyNow 291 = .ok (.iload 5, 2) := by decide +kernel
theorem dX7_manyNow_293 : decode cX7_manyNow 293 = .ok (.iastore, 1) := by decide +kernel
theorem dX7_manyNow_294 : decode cX7_manyNow 294 = .ok (.dup, 1) := by decide +kernel
theorem dX7_manyNow_295 : decode cX7_manyNow 295 = .ok (.bipush 14, 2) := by decide +kernel
theorem dX7_manyNow_297 : decode cX7_manyNow 297 = .ok (.iload 6, 2) := by decide +kernel
theorem dX7_manyNow_299 : decode cX7_manyNow 299 = .ok (.iastore, 1) := by decide +kernel
theorem dX7_manyNow_300 : decode cX7_manyNow 300 = .ok (.dup, 1) := by decide +kernel
theorem dX7_manyNow_301 : decode cX7_manyNow 301 = .ok (.bipush 15, 2) := by decide +kernel
theorem dX7_manyNow_303 : decode cX7_manyNow 303 = .ok (.aload_n 0, 1) := by decide +kernel
theorem dX7_manyNow_304 : decode cX7_manyNow 304 = .ok (.getfield 27, 3) := by decide +kernel
theorem dX7_manyNow_307 : decode cX7_manyNow 307 = .ok (.iastore, 1) := by decide +kernel
theorem dX7_manyNow_308 : decode cX7_manyNow 308 = .ok (.dup, 1) := by decide +kernel
theorem dX7_manyNow_309 : decode cX7_manyNow 309 = .ok (.bipush 16, 2) := by decide +kernel
theorem dX7_manyNow_311 : decode cX7_manyNow 311 = .ok (.iload_n 3, 1) := by decide +kernel
theorem dX7_manyNow_312 : decode cX7_manyNow 312 = .ok (.iastore, 1) := by decide +kernel
theorem dX7_manyNow_313 : decode cX7_manyNow 313 = .ok (.astore 7, 2) := by decide +kernel
theorem dX7_manyNow_315 : decode cX7_manyNow 315 = .ok (.aload 7, 2) := by decide +kernel
theorem dX7_manyNow_317 : decode cX7_manyNow 317 = .ok (.iload_n 1, 1) := by decide +kernel
theorem dX7_manyNow_318 : decode cX7_manyNow 318 = .ok (.iaload, 1) := by decide +kernel
theorem dX7_manyNow_319 : decode cX7_manyNow 319 = .ok (.ireturn, 1) := by decide +kernel
theorem dX7_many_0 : decode cX7_many 0 = .ok (.aload_n 0, 1) := by decide +kernel
theorem dX7_many_1 : decode cX7_many 1 = .ok (.iconst 0, 1) := by decide +kernel
theorem dX7_many_2 : decode cX7_many 2 = .ok (.putfield 31, 3) := by decide +kernel
theorem dX7_many_5 : decode cX7_many 5 = .ok (.iload_n 1, 1) := by decide +kernel
theorem dX7_many_6 : decode cX7_many 6 = .ok (.iconst 0, 1) := by decide +kernel
theorem dX7_many_7 : decode cX7_many 7 = .ok (.bipush 16, 2) := by decide +kernel
theorem dX7_many_9 : decode cX7_many 9 = .ok (.invokestatic 68, 3) := by decide +kernel
theorem dX7_many_12 : decode cX7_many 12 = .ok (.ifCond .eq 11, 3) := by decide +kernel
theorem dX7_many_15 : decode cX7_many 15 = .ok (.aload_n 0, 1) := by decide +kernel
theorem dX7_many_16 : decode cX7_many 16 = .ok (.iload_n 1, 1) := by decide +kernel
theorem dX7_many_17 : decode cX7_many 17 = .ok (.invokevirtual 191, 3) := by decide +kernel
theorem dX7_many_20 : decode cX7_many 20 = .ok (.goto 8, 3) := by decide +kernel
theorem dX7_many_23 : decode cX7_many 23 = .ok (.aload_n 0, 1) := by decide +kernel
theorem dX7_many_24 : decode cX7_many 24 = .ok (.iconst 1, 1) := by decide +kernel
theorem dX7_many_25 : decode cX7_many 25 = .ok (.invokevirtual 76, 3) := by decide +kernel
theorem dX7_many_28 : decode cX7_many 28 = .ok (.ireturn, 1) := by decide +kernel
theorem dX7_meanWear_0 : decode cX7_meanWear 0 = .ok (.aload_n 0, 1) := by decide +kernel
theorem dX7_meanWear_1 : decode cX7_meanWear 1 = .ok (.iload_n 1, 1) := by decide +kernel
theorem dX7_meanWear_2 : decode cX7_meanWear 2 = .ok (.iconst 0, 1) := by decide +kernel
theorem dX7_meanWear_3 : decode cX7_meanWear 3 = .ok (.iconst 1, 1) := by decide +kernel
theorem dX7_meanWear_4 : decode cX7_meanWear 4 = .ok (.invokestatic 68, 3) := by decide +kernel
theorem dX7_meanWear_7 : decode cX7_meanWear 7 = .ok (.ifCond .eq 7, 3) := by decide +kernel
theorem dX7_meanWear_10 : decode cX7_meanWear 10 = .ok (.iconst 0, 1) := by decide +kernel
theorem dX7_meanWear_11 : decode cX7_meanWear 11 = .ok (.goto 4, 3) := by decide +kernel
theorem dX7_meanWear_14 : decode cX7_meanWear 14 = .ok (.iconst 1, 1) := by decide +kernel
theorem dX7_meanWear_15 : decode cX7_meanWear 15 = .ok (.putfield 31, 3) := by decide +kernel
theorem dX7_meanWear_18 : decode cX7_meanWear 18 = .ok (.aload_n 0, 1) := by decide +kernel
theorem dX7_meanWear_19 : decode cX7_meanWear 19 = .ok (.getfield 31, 3) := by decide +kernel
theorem dX7_meanWear_22 : decode cX7_meanWear 22 = .ok (.ifCond .le 5, 3) := by decide +kernel
theorem dX7_meanWear_25 : decode cX7_meanWear 25 = .ok (.dconst 0, 1) := by decide +kernel
theorem dX7_meanWear_26 : decode cX7_meanWear 26 = .ok (.dreturn, 1) := by decide +kernel
theorem dX7_meanWear_27 : decode cX7_meanWear 27 = .ok (.iconst 0, 1) := by decide +kernel
theorem dX7_meanWear_28 : decode cX7_meanWear 28 = .ok (.istore_n 2, 1) := by decide +kernel
theorem dX7_meanWear_29 : decode cX7_meanWear 29 = .ok (.iconst 0, 1) := by decide +kernel
theorem dX7_meanWear_30 : decode cX7_meanWear 30 = .ok (.istore_n 3, 1) := by decide +kernel
theorem dX7_meanWear_31 : decode cX7_meanWear 31 = .ok (.iload_n 3, 1) := by decide +kernel
theorem dX7_meanWear_32 : decode cX7_meanWear 32 = .ok (.bipush 10, 2) := by decide +kernel
theorem dX7_meanWear_34 : decode cX7_meanWear 34 = .ok (.if_icmp .ge 25, 3) := by decide +kernel
theorem dX7_meanWear_37 : decode cX7_meanWear 37 = .ok (.iload_n 2, 1) := by decide +kernel
theorem dX7_meanWear_38 : decode cX7_meanWear 38 = .ok (.aload_n 0, 1) := by decide +kernel
theorem dX7_meanWear_39 : decode cX7_meanWear 39 = .ok (.getfield 11, 3) := by decide +kernel
theorem dX7_meanWear_42 : decode cX7_meanWear 42 = .ok (.bipush 10, 2) := by decide +kernel
theorem dX7_meanWear_44 : decode cX7_meanWear 44 = .ok (.iload_n 1, 1) := by decide +kernel
theorem dX7_meanWear_45 : decode cX7_meanWear 45 = .ok (.imul, 1) := by decide +kernel
theorem dX7_meanWear_46 : decode cX7_meanWear 46 = .ok (.iload_n 3, 1) := by decide +kernel
theorem dX7_meanWear_47 : decode cX7_meanWear 47 = .ok (.iadd, 1) := by decide +kernel
theorem dX7_meanWear_48 : decode cX7_meanWear 48 = .ok (.aaload, 1) := by decide +kernel
theorem dX7_meanWear_49 : decode cX7_meanWear 49 = .ok (.iconst 0, 1) := by decide +kernel
theorem dX7_meanWear_50 : decode cX7_meanWear 50 = .ok (.iaload, 1) := by decide +kernel
theorem dX7_meanWear_51 : decode cX7_meanWear 51 = .ok (.iadd, 1) := by decide +kernel
theorem dX7_meanWear_52 : decode cX7_meanWear 52 = .ok (.istore_n 2, 1) := by decide +kernel
theorem dX7_meanWear_53 : decode cX7_meanWear 53 = .ok (.iinc 3 1, 3) := by decide +kernel
theorem dX7_meanWear_56 : decode cX7_meanWear 56 = .ok (.goto (-25), 3) := by decide +kernel
theorem dX7_meanWear_59 : decode cX7_meanWear 59 = .ok (.iload_n 2, 1) := by decide +kernel
theorem dX7_meanWear_60 : decode cX7_meanWear 60 = .ok (.i2d, 1) := by decide +kernel
theorem dX7_meanWear_61 : decode cX7_meanWear 61 = .ok (.ldc2_w 194, 3) := by decide +kernel
theorem dX7_meanWear_64 : decode cX7_meanWear 64 = .ok (.ddiv, 1) := by decide +kernel
theorem dX7_meanWear_65 : decode cX7_meanWear 65 = .ok (.dreturn, 1) := by decide +kernel
theorem dX7_seeNow_0 : decode cX7_seeNow 0 = .ok (.iconst 0, 1) := by decide +kernel
theorem dX7_seeNow_1 : decode cX7_seeNow 1 = .ok (.istore_n 2, 1) := by decide +kernel
theorem dX7_seeNow_2 : decode cX7_seeNow 2 = .ok (.iload_n 2, 1) := by decide +kernel
theorem dX7_seeNow_3 : decode cX7_seeNow 3 = .ok (.aload_n 0, 1) := by decide +kernel
theorem dX7_seeNow_4 : decode cX7_seeNow 4 = .ok (.getfield 24, 3) := by decide +kernel
theorem dX7_seeNow_7 : decode cX7_seeNow 7 = .ok (.invokevirtual 64, 3) := by decide +kernel
theorem dX7_seeNow_10 : decode cX7_seeNow 10 = .ok (.if_icmp .ge 67, 3) := by decide +kernel
theorem dX7_seeNow_13 : decode cX7_seeNow 13 = .ok (.aload_n 0, 1) := by decide +kernel
theorem dX7_seeNow_14 : decode cX7_seeNow 14 = .ok (.getfield 24, 3) := by decide +kernel
theorem dX7_seeNow_17 : decode cX7_seeNow 17 = .ok (.iload_n 2, 1) := by decide +kernel
theorem dX7_seeNow_18 : decode cX7_seeNow 18 = .ok (.invokevirtual 52, 3) := by decide +kernel
theorem dX7_seeNow_21 : decode cX7_seeNow 21 = .ok (.checkcast 56, 3) := by decide +kernel
theorem dX7_seeNow_24 : decode cX7_seeNow 24 = .ok (.astore_n 3, 1) := by decide +kernel
theorem dX7_seeNow_25 : decode cX7_seeNow 25 = .ok (.iload_n 1, 1) := by decide +kernel
theorem dX7_seeNow_26 : decode cX7_seeNow 26 = .ok (.bipush 10, 2) := by decide +kernel
theorem dX7_seeNow_28 : decode cX7_seeNow 28 = .ok (.irem, 1) := by decide +kernel
theorem dX7_seeNow_29 : decode cX7_seeNow 29 = .ok (.aload_n 3, 1) := by decide +kernel
theorem dX7_seeNow_30 : decode cX7_seeNow 30 = .ok (.iconst 3, 1) := by decide +kernel
theorem dX7_seeNow_31 : decode cX7_seeNow 31 = .ok (.iaload, 1) := by decide +kernel
theorem dX7_seeNow_32 : decode cX7_seeNow 32 = .ok (.isub, 1) := by decide +kernel
theorem dX7_seeNow_33 : decode cX7_seeNow 33 = .ok (.istore 4, 2) := by decide +kernel
theorem dX7_seeNow_35 : decode cX7_seeNow 35 = .ok (.aload_n 3, 1) := by decide +kernel
theorem dX7_seeNow_36 : decode cX7_seeNow 36 = .ok (.iconst 0, 1) := by decide +kernel
theorem dX7_seeNow_37 : decode cX7_seeNow 37 = .ok (.iaload, 1) := by decide +kernel
theorem dX7_seeNow_38 : decode cX7_seeNow 38 = .ok (.iload_n 1, 1) := by decide +kernel
theorem dX7_seeNow_39 : decode cX7_seeNow 39 = .ok (.bipush 10, 2) := by decide +kernel
theorem dX7_seeNow_41 : decode cX7_seeNow 41 = .ok (.idiv, 1) := by decide +kernel
theorem dX7_seeNow_42 : decode cX7_seeNow 42 = .ok (.if_icmp .ne 29, 3) := by decide +kernel
theorem dX7_seeNow_45 : decode cX7_seeNow 45 = .ok (.iload 4, 2) := by decide +kernel
theorem dX7_seeNow_47 : decode cX7_seeNow 47 = .ok (.iconst 0, 1) := by decide +kernel
theorem dX7_seeNow_48 : decode cX7_seeNow 48 = .ok (.bipush 9, 2) := by decide +kernel
theorem dX7_seeNow_50 : decode cX7_seeNow 50 = .ok (.invokestatic 68, 3) := by decide +kernel
theorem dX7_seeNow_53 : decode cX7_seeNow 53 = .ok (.ifCond .eq 18, 3) := by decide +kernel
theorem dX7_seeNow_56 : decode cX7_seeNow 56 = .ok (.aload_n 3, 1) := by decide +kernel
theorem dX7_seeNow_57 : decode cX7_seeNow 57 = .ok (.iconst 5, 1) := by decide +kernel
theorem dX7_seeNow_58 : decode cX7_seeNow 58 = .ok (.iconst 4, 1) := by decide +kernel
theorem dX7_seeNow_59 : decode cX7_seeNow 59 = .ok (.iload 4, 2) := by decide +kernel
theorem dX7_seeNow_61 : decode cX7_seeNow 61 = .ok (.imul, 1) := by decide +kernel
theorem dX7_seeNow_62 : decode cX7_seeNow 62 = .ok (.iadd, 1) := by decide +kernel
theorem dX7_seeNow_63 : decode cX7_seeNow 63 = .ok (.iconst 2, 1) := by decide +kernel
theorem dX7_seeNow_64 : decode cX7_seeNow 64 = .ok (.iadd, 1) := by decide +kernel
theorem dX7_seeNow_65 : decode cX7_seeNow 65 = .ok (.iaload, 1) := by decide +kernel
theorem dX7_seeNow_66 : decode cX7_seeNow 66 = .ok (.ifCond .le 5, 3) := by decide +kernel
theorem dX7_seeNow_69 : decode cX7_seeNow 69 = .ok (.iload_n 2, 1) := by decide +kernel
theorem dX7_seeNow_70 : decode cX7_seeNow 70 = .ok (.ireturn, 1) := by decide +kernel
theorem dX7_seeNow_71 : decode cX7_seeNow 71 = .ok (.iinc 2 1, 3) := by decide +kernel
theorem dX7_seeNow_74 : decode cX7_seeNow 74 = .ok (.goto (-72), 3) := by decide +kernel
theorem dX7_seeNow_77 : decode cX7_seeNow 77 = .ok (.iconst (-1), 1) := by decide +kernel
theorem dX7_seeNow_78 : decode cX7_seeNow 78 = .ok (.ireturn, 1) := by decide +kernel
theorem dX7_couldSee_0 : decode cX7_couldSee 0 = .ok (.aload_n 0, 1) := by decide +kernel
theorem dX7_couldSee_1 : decode cX7_couldSee 1 = .ok (.iconst 0, 1) := by decide +kernel
theorem dX7_couldSee_2 : decode cX7_couldSee 2 = .ok (.putfield 31, 3) := by decide +kernel
theorem dX7_couldSee_5 : decode cX7_couldSee 5 = .ok (.iload_n 1, 1) := by decide +kernel
theorem dX7_couldSee_6 : decode cX7_couldSee 6 = .ok (.invokestatic 72, 3) := by decide +kernel
theorem dX7_couldSee_9 : decode cX7_couldSee 9 = .ok (.ifCond .eq 11, 3) := by decide +kernel
theorem dX7_couldSee_12 : decode cX7_couldSee 12 = .ok (.aload_n 0, 1) := by decide +kernel
theorem dX7_couldSee_13 : decode cX7_couldSee 13 = .ok (.iload_n 1, 1) := by decide +kernel
theorem dX7_couldSee_14 : decode cX7_couldSee 14 = .ok (.invokevirtual 196, 3) := by decide +kernel
theorem dX7_couldSee_17 : decode cX7_couldSee 17 = .ok (.goto 8, 3) := by decide +kernel
theorem dX7_couldSee_20 : decode cX7_couldSee 20 = .ok (.aload_n 0, 1) := by decide +kernel
theorem dX7_couldSee_21 : decode cX7_couldSee 21 = .ok (.iconst 1, 1) := by decide +kernel
theorem dX7_couldSee_22 : decode cX7_couldSee 22 = .ok (.invokevirtual 76, 3) := by decide +kernel
theorem dX7_couldSee_25 : decode cX7_couldSee 25 = .ok (.ireturn, 1) := by decide +kernel
theorem dX7_riskNow_0 : decode cX7_riskNow 0 = .ok (.aload_n 0, 1) := by decide +kernel
theorem dX7_riskNow_1 : decode cX7_riskNow 1 = .ok (.getfield 11, 3) := by decide +kernel
theorem dX7_riskNow_4 : decode cX7_riskNow 4 = .ok (.iload_n 1, 1) := by decide +kernel
theorem dX7_riskNow_5 : decode cX7_riskNow 5 = .ok (.aaload, 1) := by decide +kernel
theorem dX7_riskNow_6 : decode cX7_riskNow 6 = .ok (.invokevirtual 199, 3) := by decide +kernel
theorem dX7_riskNow_9 : decode cX7_riskNow 9 = .ok (.checkcast 56, 3) := by decide +kernel
theorem dX7_riskNow_12 : decode cX7_riskNow 12 = .ok (.astore_n 3, 1) := by decide +kernel
theorem dX7_riskNow_13 : decode cX7_riskNow 13 = .ok (.iconst 0, 1) := by decide +kernel
theorem dX7_riskNow_14 : decode cX7_riskNow 14 = .ok (.istore 4, 2) := by decide +kernel
theorem dX7_riskNow_16 : decode cX7_riskNow 16 = .ok (.iload 4, 2) := by decide +kernel
theorem dX7_riskNow_18 : decode cX7_riskNow 18 = .ok (.sipush 200, 3) := by decide +kernel
theorem dX7_riskNow_21 : decode cX7_riskNow 21 = .ok (.if_icmp .gt 32, 3) := by decide +kernel
theorem dX7_riskNow_24 : decode cX7_riskNow 24 = .ok (.aload_n 3, 1) := by decide +kernel
theorem dX7_riskNow_25 : decode cX7_riskNow 25 = .ok (.bipush 6, 2) := by decide +kernel
theorem dX7_riskNow_27 : decode cX7_riskNow 27 = .ok (.iaload, 1) := by decide +kernel
theorem dX7_riskNow_28 : decode cX7_riskNow 28 = .ok (.aload_n 3, 1) := by decide +kernel
theorem dX7_riskNow_29 : decode cX7_riskNow 29 = .ok (.aload_n 0, 1) := by decide +kernel
theorem dX7_riskNow_30 : decode cX7_riskNow 30 = .ok (.getfield 27, 3) := by decide +kernel
theorem dX7_riskNow_33 : decode cX7_riskNow 33 = .ok (.invokestatic 44, 3) := by decide +kernel
theorem dX7_riskNow_36 : decode cX7_riskNow 36 = .ok (.if_icmp .le 6, 3) := by decide +kernel
theorem dX7_riskNow_39 : decode cX7_riskNow 39 = .ok (.iload 4, 2) := by decide +kernel
theorem dX7_riskNow_41 : decode cX7_riskNow 41 = .ok (.ireturn, 1) := by decide +kernel
theorem dX7_riskNow_42 : decode cX7_riskNow 42 = .ok (.aload_n 3, 1) := by decide +kernel
theorem dX7_riskNow_43 : decode cX7_riskNow 43 = .ok (.iload_n 2, 1) := by decide +kernel
theorem dX7_riskNow_44 : decode cX7_riskNow 44 = .ok (.invokestatic 99, 3) := by decide +kernel
theorem dX7_riskNow_47 : decode cX7_riskNow 47 = .ok (.iinc 4 1, 3) := by decide +kernel
theorem dX7_riskNow_50 : decode cX7_riskNow 50 = .ok (.goto (-34), 3) := by decide +kernel
theorem dX7_riskNow_53 : decode cX7_riskNow 53 = .ok (.iconst (-1), 1) := by decide +kernel
theorem dX7_riskNow_54 : decode cX7_riskNow 54 = .ok (.ireturn, 1) := by decide +kernel
theorem dX7_firstRisk_0 : decode cX7_firstRisk 0 = .ok (.aload_n 0, 1) := by decide +kernel
theorem dX7_firstRisk_1 : decode cX7_firstRisk 1 = .ok (.iconst 0, 1) := by decide +kernel
theorem dX7_firstRisk_2 : decode cX7_firstRisk 2 = .ok (.putfield 31, 3) := by decide +kernel
theorem dX7_firstRisk_5 : decode cX7_firstRisk 5 = .ok (.iload_n 1, 1) := by decide +kernel
theorem dX7_firstRisk_6 : decode cX7_firstRisk 6 = .ok (.invokestatic 72, 3) := by decide +kernel
theorem dX7_firstRisk_9 : decode cX7_firstRisk 9 = .ok (.ifCond .ne 9, 3) := by decide +kernel
theorem dX7_firstRisk_12 : decode cX7_firstRisk 12 = .ok (.aload_n 0, 1) := by decide +kernel
theorem dX7_firstRisk_13 : decode cX7_firstRisk 13 = .ok (.iconst 1, 1) := by decide +kernel
theorem dX7_firstRisk_14 : decode cX7_firstRisk 14 = .ok (.invokevirtual 76, 3) := by decide +kernel
theorem dX7_firstRisk_17 : decode cX7_firstRisk 17 = .ok (.ireturn, 1) := by decide +kernel
theorem dX7_firstRisk_18 : decode cX7_firstRisk 18 = .ok (.iload_n 2, 1) := by decide +kernel
theorem dX7_firstRisk_19 : decode cX7_firstRisk 19 = .ok (.invokestatic 112, 3) := by decide +kernel
theorem dX7_firstRisk_22 : decode cX7_firstRisk 22 = .ok (.ifCond .eq 12, 3) := by decide +kernel
theorem dX7_firstRisk_25 : decode cX7_firstRisk 25 = .ok (.aload_n 0, 1) := by decide +kernel
theorem dX7_firstRisk_26 : decode cX7_firstRisk 26 = .ok (.iload_n 1, 1) := by decide +kernel
theorem dX7_firstRisk_27 : decode cX7_firstRisk 27 = .ok (.iload_n 2, 1) := by decide +kernel
theorem dX7_firstRisk_28 : decode cX7_firstRisk 28 = .ok (.invokevirtual 202, 3) := by decide +kernel
theorem dX7_firstRisk_31 : decode cX7_firstRisk 31 = .ok (.goto 8, 3) := by decide +kernel
theorem dX7_firstRisk_34 : decode cX7_firstRisk 34 = .ok (.aload_n 0, 1) := by decide +kernel
theorem dX7_firstRisk_35 : decode cX7_firstRisk 35 = .ok (.iconst 2, 1) := by decide +kernel
theorem dX7_firstRisk_36 : decode cX7_firstRisk 36 = .ok (.invokevirtual 76, 3) := by decide +kernel
theorem dX7_firstRisk_39 : decode cX7_firstRisk 39 = .ok (.ireturn, 1) := by decide +kernel
theorem dX7_costOf_0 : decode cX7_costOf 0 = .ok (.aload_n 0, 1) := by decide +kernel
theorem dX7_costOf_1 : decode cX7_costOf 1 = .ok (.getfield 11, 3) := by decide +kernel
theorem dX7_costOf_4 : decode cX7_costOf 4 = .ok (.iload_n 1, 1) := by decide +kernel
theorem dX7_costOf_5 : decode cX7_costOf 5 = .ok (.aaload, 1) := by decide +kernel
theorem dX7_costOf_6 : decode cX7_costOf 6 = .ok (.invokevirtual 199, 3) := by decide +kernel
theorem dX7_costOf_9 : decode cX7_costOf 9 = .ok (.checkcast 56, 3) := by decide +kernel
theorem dX7_costOf_12 : decode cX7_costOf 12 = .ok (.astore 5, 2) := by decide +kernel
theorem dX7_costOf_14 : decode cX7_costOf 14 = .ok (.iload_n 2, 1) := by decide +kernel
theorem dX7_costOf_15 : decode cX7_costOf 15 = .ok (.iconst 2, 1) := by decide +kernel
theorem dX7_costOf_16 : decode cX7_costOf 16 = .ok (.if_icmp .le 7, 3) := by decide +kernel
theorem dX7_costOf_19 : decode cX7_costOf 19 = .ok (.iconst 0, 1) := by decide +kernel
theorem dX7_costOf_20 : decode cX7_costOf 20 = .ok (.goto 25, 3) := by decide +kernel
theorem dX7_costOf_23 : decode cX7_costOf 23 = .ok (.bipush 30, 2) := by decide +kernel
theorem dX7_costOf_25 : decode cX7_costOf 25 = .ok (.aload_n 0, 1) := by decide +kernel
theorem dX7_costOf_26 : decode cX7_costOf 26 = .ok (.iload_n 2, 1) := by decide +kernel
theorem dX7_costOf_27 : decode cX7_costOf 27 = .ok (.iload_n 1, 1) := by decide +kernel
theorem dX7_costOf_28 : decode cX7_costOf 28 = .ok (.invokevirtual 142, 3) := by decide +kernel
theorem dX7_costOf_31 : decode cX7_costOf 31 = .ok (.imul, 1) := by decide +kernel
theorem dX7_costOf_32 : decode cX7_costOf 32 = .ok (.iload_n 2, 1) := by decide +kernel
theorem dX7_costOf_33 : decode cX7_costOf 33 = .ok (.iconst 2, 1) := by decide +kernel
theorem dX7_costOf_34 : decode cX7_costOf 34 = .ok (.if_icmp .ne 9, 3) := by decide +kernel
theorem dX7_costOf_37 : decode cX7_costOf 37 = .ok (.sipush 300, 3) := by decide +kernel
theorem dX7_costOf_40 : decode cX7_costOf 40 = .ok (.goto 4, 3) := by decide +kernel
theorem dX7_costOf_43 : decode cX7_costOf 43 = .ok (.iconst 0, 1) := by decide +kernel
theorem dX7_costOf_44 : decode cX7_costOf 44 = .ok (.iadd, 1) := by decide +kernel
theorem dX7_costOf_45 : decode cX7_costOf 45 = .ok (.istore 6, 2) := by decide +kernel
theorem dX7_costOf_47 : decode cX7_costOf 47 = .ok (.iload_n 2, 1) := by decide +kernel
theorem dX7_costOf_48 : decode cX7_costOf 48 = .ok (.iconst 2, 1) := by decide +kernel
theorem dX7_costOf_49 : decode cX7_costOf 49 = .ok (.if_icmp .gt 13, 3) := by decide +kernel
theorem dX7_costOf_52 : decode cX7_costOf 52 = .ok (.aload 5, 2) := by decide +kernel
theorem dX7_costOf_54 : decode cX7_costOf 54 = .ok (.iload_n 2, 1) := by decide +kernel
theorem dX7_costOf_55 : decode cX7_costOf 55 = .ok (.aload_n 0, 1) := by decide +kernel
theorem dX7_costOf_56 : decode cX7_costOf 56 = .ok (.getfield 27, 3) := by decide +kernel
theorem dX7_costOf_59 : decode cX7_costOf 59 = .ok (.invokestatic 161, 3) := by decide +kernel
theorem dX7_costOf_62 : decode cX7_costOf 62 = .ok (.iconst 0, 1) := by decide +kernel
theorem dX7_costOf_63 : decode cX7_costOf 63 = .ok (.istore 7, 2) := by decide +kernel
theorem dX7_costOf_65 : decode cX7_costOf 65 = .ok (.iload 7, 2) := by decide +kernel
theorem dX7_costOf_67 : decode cX7_costOf 67 = .ok (.iload 4, 2) := by decide +kernel
theorem dX7_costOf_69 : decode cX7_costOf 69 = .ok (.if_icmp .ge 38, 3) := by decide +kernel
theorem dX7_costOf_72 : decode cX7_costOf 72 = .ok (.aload 5, 2) := by decide +kernel
theorem dX7_costOf_74 : decode cX7_costOf 74 = .ok (.iload_n 3, 1) := by decide +kernel
theorem dX7_costOf_75 : decode cX7_costOf 75 = .ok (.invokestatic 99, 3) := by decide +kernel
theorem dX7_costOf_78 : decode cX7_costOf 78 = .ok (.iload 6, 2) := by decide +kernel
theorem dX7_costOf_80 : decode cX7_costOf 80 = .ok (.iload_n 3, 1) := by decide +kernel
theorem dX7_costOf_81 : decode cX7_costOf 81 = .ok (.sipush 160, 3) := by decide +kernel
theorem dX7_costOf_84 : decode cX7_costOf 84 = .ok (.aload 5, 2) := by decide +kernel
theorem dX7_costOf_86 : decode cX7_costOf 86 = .ok (.aload_n 0, 1) := by decide +kernel
theorem dX7_costOf_87 : decode cX7_costOf 87 = .ok (.getfield 27, 3) := by decide +kernel
theorem dX7_costOf_90 : decode cX7_costOf 90 = .ok (.invokestatic 44, 3) := by decide +kernel
theorem dX7_costOf_93 : decode cX7_costOf 93 = .ok (.isub, 1) := by decide +kernel
theorem dX7_costOf_94 : decode cX7_costOf 94 = .ok (.imul, 1) := by decide +kernel
theorem dX7_costOf_95 : decode cX7_costOf 95 = .ok (.bipush 80, 2) := by decide +kernel
theorem dX7_costOf_97 : decode cX7_costOf 97 = .ok (.idiv, 1) := by decide +kernel
theorem dX7_costOf_98 : decode cX7_costOf 98 = .ok (.iadd, 1) := by decide +kernel
theorem dX7_costOf_99 : decode cX7_costOf 99 = .ok (.istore 6, 2) := by decide +kernel
theorem dX7_costOf_101 : decode cX7_costOf 101 = .ok (.iinc 7 1, 3) := by decide +kernel
theorem dX7_costOf_104 : decode cX7_costOf 104 = .ok (.goto (-39), 3) := by decide +kernel
theorem dX7_costOf_107 : decode cX7_costOf 107 = .ok (.iload 6, 2) := by decide +kernel
theorem dX7_costOf_109 : decode cX7_costOf 109 = .ok (.ireturn, 1) := by decide +kernel
theorem dX7_bestNow_0 : decode cX7_bestNow 0 = .ok (.iconst 0, 1) := by decide +kernel
theorem dX7_bestNow_1 : decode cX7_bestNow 1 = .ok (.istore 4, 2) := by decide +kernel
theorem dX7_bestNow_3 : decode cX7_bestNow 3 = .ok (.aload_n 0, 1) := by decide +kernel
theorem dX7_bestNow_4 : decode cX7_bestNow 4 = .ok (.iload_n 1, 1) := by decide +kernel
theorem dX7_bestNow_5 : decode cX7_bestNow 5 = .ok (.iconst 0, 1) := by decide +kernel
theorem dX7_bestNow_6 : decode cX7_bestNow 6 = .ok (.iload_n 2, 1) := by decide +kernel
theorem dX7_bestNow_7 : decode cX7_bestNow 7 = .ok (.iload_n 3, 1) := by decide +kernel
theorem dX7_bestNow_8 : decode cX7_bestNow 8 = .ok (.invokevirtual 205, 3) := by decide +kernel
theorem dX7_bestNow_11 : decode cX7_bestNow 11 = .ok (.istore 5, 2) := by decide +kernel
theorem dX7_bestNow_13 : decode cX7_bestNow 13 = .ok (.iconst 1, 1) := by decide +kernel
theorem dX7_bestNow_14 : decode cX7_bestNow 14 = .ok (.istore 6, 2) := by decide +kernel
theorem dX7_bestNow_16 : decode cX7_bestNow 16 = .ok (.iload 6, 2) := by decide +kernel
theorem dX7_bestNow_18 : decode cX7_bestNow 18 = .ok (.iconst 4, 1) := by decide +kernel
theorem dX7_bestNow_19 : decode cX7_bestNow 19 = .ok (.if_icmp .ge 38, 3) := by decide +kernel
theorem dX7_bestNow_22 : decode cX7_bestNow 22 = .ok (.aload_n 0, 1) := by decide +kernel
theorem dX7_bestNow_23 : decode cX7_bestNow 23 = .ok (.iload_n 1, 1) := by decide +kernel
theorem dX7_bestNow_24 : decode cX7_bestNow 24 = .ok (.iload 6, 2) := by decide +kernel
theorem dX7_bestNow_26 : decode cX7_bestNow 26 = .ok (.iload_n 2, 1) := by decide +kernel
theorem dX7_bestNow_27 : decode cX7_bestNow 27 = .ok (.iload_n 3, 1) := by decide +kernel
theorem dX7_bestNow_28 : decode cX7_bestNow 28 = .ok (.invokevirtual 205, 3) := by decide +kernel
theorem dX7_bestNow_31 : decode cX7_bestNow 31 = .ok (.istore 7, 2) := by decide +kernel
theorem dX7_bestNow_33 : decode cX7_bestNow 33 = .ok (.iload 7, 2) := by decide +kernel
theorem dX7_bestNow_35 : decode cX7_bestNow 35 = .ok (.iload 5, 2) := by decide +kernel
theorem dX7_bestNow_37 : decode cX7_bestNow 37 = .ok (.if_icmp .lt 6, 3) := by decide +kernel
theorem dX7_bestNow_40 : decode cX7_bestNow 40 = .ok (.goto 11, 3) := by decide +kernel
theorem dX7_bestNow_43 : decode cX7_bestNow 43 = .ok (.iload 6, 2) := by decide +kernel
theorem dX7_bestNow_45 : decode cX7_bestNow 45 = .ok (.istore 4, 2) := by decide +kernel
theorem dX7_bestNow_47 : decode cX7_bestNow 47 = .ok (.iload 7, 2) := by decide +kernel
theorem dX7_bestNow_49 : decode cX7_bestNow 49 = .ok (.istore 5, 2) := by decide +kernel
theorem dX7_bestNow_51 : decode cX7_bestNow 51 = .ok (.iinc 6 1, 3) := by decide +kernel
theorem dX7_bestNow_54 : decode cX7_bestNow 54 = .ok (.goto (-38), 3) := by decide +kernel
theorem dX7_bestNow_57 : decode cX7_bestNow 57 = .ok (.iload 4, 2) := by decide +kernel
theorem dX7_bestNow_59 : decode cX7_bestNow 59 = .ok (.ireturn, 1) := by decide +kernel
theorem dX7_bestWork_0 : decode cX7_bestWork 0 = .ok (.aload_n 0, 1) := by decide +kernel
theorem dX7_bestWork_1 : decode cX7_bestWork 1 = .ok (.iconst 0, 1) := by decide +kernel
theorem dX7_bestWork_2 : decode cX7_bestWork 2 = .ok (.putfield 31, 3) := by decide +kernel
theorem dX7_bestWork_5 : decode cX7_bestWork 5 = .ok (.iload_n 1, 1) := by decide +kernel
theorem dX7_bestWork_6 : decode cX7_bestWork 6 = .ok (.invokestatic 72, 3) := by decide +kernel
theorem dX7_bestWork_9 : decode cX7_bestWork 9 = .ok (.ifCond .ne 9, 3) := by decide +kernel
theorem dX7_bestWork_12 : decode cX7_bestWork 12 = .ok (.aload_n 0, 1) := by decide +kernel
theorem dX7_bestWork_13 : decode cX7_bestWork 13 = .ok (.iconst 1, 1) := by decide +kernel
theorem dX7_bestWork_14 : decode cX7_bestWork 14 = .ok (.invokevirtual 76, 3) := by decide +kernel
theorem dX7_bestWork_17 : decode cX7_bestWork 17 = .ok (.ireturn, 1) := by decide +kernel
theorem dX7_bestWork_18 : decode cX7_bestWork 18 = .ok (.iload_n 2, 1) := by decide +kernel
theorem dX7_bestWork_19 : decode cX7_bestWork 19 = .ok (.invokestatic 112, 3) := by decide +kernel
theorem dX7_bestWork_22 : decode cX7_bestWork 22 = .ok (.ifCond .eq 24, 3) := by decide +kernel
theorem dX7_bestWork_25 : decode cX7_bestWork 25 = .ok (.iload_n 3, 1) := by decide +kernel
theorem dX7_bestWork_26 : decode cX7_bestWork 26 = .ok (.iconst 1, 1) := by decide +kernel
theorem dX7_bestWork_27 : decode cX7_bestWork 27 = .ok (.sipush 200, 3) := by decide +kernel
theorem dX7_bestWork_30 : decode cX7_bestWork 30 = .ok (.invokestatic 68, 3) := by decide +kernel
theorem dX7_bestWork_33 : decode cX7_bestWork 33 = .ok (.ifCond .eq 13, 3) := by decide +kernel
theorem dX7_bestWork_36 : decode cX7_bestWork 36 = .ok (.aload_n 0, 1) := by decide +kernel
theorem dX7_bestWork_37 : decode cX7_bestWork 37 = .ok (.iload_n 1, 1) := by decide +kernel
theorem dX7_bestWork_38 : decode cX7_bestWork 38 = .ok (.iload_n 2, 1) := by decide +kernel
theorem dX7_bestWork_39 : decode cX7_bestWork 39 = .ok (.iload_n 3, 1) := by decide +kernel
theorem dX7_bestWork_40 : decode cX7_bestWork 40 = .ok (.invokevirtual 209, 3) := by decide +kernel
theorem dX7_bestWork_43 : decode cX7_bestWork 43 = .ok (.goto 8, 3) := by decide +kernel
theorem dX7_bestWork_46 : decode cX7_bestWork 46 = .ok (.aload_n 0, 1) := by decide +kernel
theorem dX7_bestWork_47 : decode cX7_bestWork 47 = .ok (.iconst 2, 1) := by decide +kernel
theorem dX7_bestWork_48 : decode cX7_bestWork 48 = .ok (.invokevirtual 76, 3) := by decide +kernel
theorem dX7_bestWork_51 : decode cX7_bestWork 51 = .ok (.ireturn, 1) := by decide +kernel
theorem dX7_freeNow_0 : decode cX7_freeNow 0 = .ok (.aload_n 0, 1) := by decide +kernel
theorem dX7_freeNow_1 : decode cX7_freeNow 1 = .ok (.getfield 93, 3) := by decide +kernel
theorem dX7_freeNow_4 : decode cX7_freeNow 4 = .ok (.iconst 5, 1) := by decide +kernel
theorem dX7_freeNow_5 : decode cX7_freeNow 5 = .ok (.iadd, 1) := by decide +kernel
theorem dX7_freeNow_6 : decode cX7_freeNow 6 = .ok (.istore 4, 2) := by decide +kernel
theorem dX7_freeNow_8 : decode cX7_freeNow 8 = .ok (.iload 4, 2) := by decide +kernel
theorem dX7_freeNow_10 : decode cX7_freeNow 10 = .ok (.sipush 2000, 3) := by decide +kernel
theorem dX7_freeNow_13 : decode cX7_freeNow 13 = .ok (.if_icmp .gt 24, 3) := by decide +kernel
theorem dX7_freeNow_16 : decode cX7_freeNow 16 = .ok (.aload_n 0, 1) := by decide +kernel
theorem dX7_freeNow_17 : decode cX7_freeNow 17 = .ok (.iload_n 1, 1) := by decide +kernel
theorem dX7_freeNow_18 : decode cX7_freeNow 18 = .ok (.iload_n 2, 1) := by decide +kernel
theorem dX7_freeNow_19 : decode cX7_freeNow 19 = .ok (.iload_n 3, 1) := by decide +kernel
theorem dX7_freeNow_20 : decode cX7_freeNow 20 = .ok (.iload 4, 2) := by decide +kernel
theorem dX7_freeNow_22 : decode cX7_freeNow 22 = .ok (.invokevirtual 132, 3) := by decide +kernel
theorem dX7_freeNow_25 : decode cX7_freeNow 25 = .ok (.ifCond .eq 6, 3) := by decide +kernel
theorem dX7_freeNow_28 : decode cX7_freeNow 28 = .ok (.iload 4, 2) := by decide +kernel
theorem dX7_freeNow_30 : decode cX7_freeNow 30 = .ok (.ireturn, 1) := by decide +kernel
theorem dX7_freeNow_31 : decode cX7_freeNow 31 = .ok (.iinc 4 1, 3) := by decide +kernel
theorem dX7_freeNow_34 : decode cX7_freeNow 34 = .ok (.goto (-26), 3) := by decide +kernel
theorem dX7_freeNow_37 : decode cX7_freeNow 37 = .ok (.iconst (-1), 1) := by decide +kernel
theorem dX7_freeNow_38 : decode cX7_freeNow 38 = .ok (.ireturn, 1) := by decide +kernel
theorem dX7_freeDay_0 : decode cX7_freeDay 0 = .ok (.aload_n 0, 1) := by decide +kernel
theorem dX7_freeDay_1 : decode cX7_freeDay 1 = .ok (.iconst 0, 1) := by decide +kernel
theorem dX7_freeDay_2 : decode cX7_freeDay 2 = .ok (.putfield 31, 3) := by decide +kernel
theorem dX7_freeDay_5 : decode cX7_freeDay 5 = .ok (.iload_n 1, 1) := by decide +kernel
theorem dX7_freeDay_6 : decode cX7_freeDay 6 = .ok (.iload_n 2, 1) := by decide +kernel
theorem dX7_freeDay_7 : decode cX7_freeDay 7 = .ok (.iload_n 3, 1) := by decide +kernel
theorem dX7_freeDay_8 : decode cX7_freeDay 8 = .ok (.invokestatic 118, 3) := by decide +kernel
theorem dX7_freeDay_11 : decode cX7_freeDay 11 = .ok (.ifCond .ne 9, 3) := by decide +kernel
theorem dX7_freeDay_14 : decode cX7_freeDay 14 = .ok (.aload_n 0, 1) := by decide +kernel
theorem dX7_freeDay_15 : decode cX7_freeDay 15 = .ok (.iconst 1, 1) := by decide +kernel
theorem dX7_freeDay_16 : decode cX7_freeDay 16 = .ok (.invokevirtual 76, 3) := by decide +kernel
theorem dX7_freeDay_19 : decode cX7_freeDay 19 = .ok (.ireturn, 1) := by decide +kernel
theorem dX7_freeDay_20 : decode cX7_freeDay 20 = .ok (.iload_n 3, 1) := by decide +kernel
theorem dX7_freeDay_21 : decode cX7_freeDay 21 = .ok (.iload_n 2, 1) := by decide +kernel
theorem dX7_freeDay_22 : decode cX7_freeDay 22 = .ok (.if_icmp .lt 13, 3) := by decide +kernel
theorem dX7_freeDay_25 : decode cX7_freeDay 25 = .ok (.aload_n 0, 1) := by decide +kernel
theorem dX7_freeDay_26 : decode cX7_freeDay 26 = .ok (.iload_n 1, 1) := by decide +kernel
theorem dX7_freeDay_27 : decode cX7_freeDay 27 = .ok (.iload_n 2, 1) := by decide +kernel
theorem dX7_freeDay_28 : decode cX7_freeDay 28 = .ok (.iload_n 3, 1) := by decide +kernel
theorem dX7_freeDay_29 : decode cX7_freeDay 29 = .ok (.invokevirtual 213, 3) := by decide +kernel
theorem dX7_freeDay_32 : decode cX7_freeDay 32 = .ok (.goto 8, 3) := by decide +kernel
theorem dX7_freeDay_35 : decode cX7_freeDay 35 = .ok (.aload_n 0, 1) := by decide +kernel
theorem dX7_freeDay_36 : decode cX7_freeDay 36 = .ok (.iconst 2, 1) := by decide +kernel
theorem dX7_freeDay_37 : decode cX7_freeDay 37 = .ok (.invokevirtual 76, 3) := by decide +kernel
theorem dX7_freeDay_40 : decode cX7_freeDay 40 = .ok (.ireturn, 1) := by decide +kernel
theorem dX7_wouldOverrun_0 : decode cX7_wouldOverrun 0 = .ok (.aload_n 0, 1) := by decide +kernel
theorem dX7_wouldOverrun_1 : decode cX7_wouldOverrun 1 = .ok (.iconst 0, 1) := by decide +kernel
theorem dX7_wouldOverrun_2 : decode cX7_wouldOverrun 2 = .ok (.putfield 31, 3) := by decide +kernel
theorem dX7_wouldOverrun_5 : decode cX7_wouldOverrun 5 = .ok (.aload_n 0, 1) := by decide +kernel
theorem dX7_wouldOverrun_6 : decode cX7_wouldOverrun 6 = .ok (.iload_n 1, 1) := by decide +kernel
theorem dX7_wouldOverrun_7 : decode cX7_wouldOverrun 7 = .ok (.invokevirtual 136, 3) := by decide +kernel
theorem dX7_wouldOverrun_10 : decode cX7_wouldOverrun 10 = .ok (.ifCond .ne 9, 3) := by decide +kernel
theorem dX7_wouldOverrun_13 : decode cX7_wouldOverrun 13 = .ok (.aload_n 0, 1) := by decide +kernel
theorem dX7_wouldOverrun_14 : decode cX7_wouldOverrun 14 = .ok (.iconst 1, 1) := by decide +kernel
theorem dX7_wouldOverrun_15 : decode cX7_wouldOverrun 15 = .ok (.invokevirtual 76, 3) := by decide +kernel
theorem dX7_wouldOverrun_18 : decode cX7_wouldOverrun 18 = .ok (.ireturn, 1) := by decide +kernel
theorem dX7_wouldOverrun_19 : decode cX7_wouldOverrun 19 = .ok (.aload_n 0, 1) := by decide +kernel
theorem dX7_wouldOverrun_20 : decode cX7_wouldOverrun 20 = .ok (.getfield 21, 3) := by decide +kernel
theorem dX7_wouldOverrun_23 : decode cX7_wouldOverrun 23 = .ok (.iload_n 1, 1) := by decide +kernel
theorem dX7_wouldOverrun_24 : decode cX7_wouldOverrun 24 = .ok (.invokevirtual 52, 3) := by decide +kernel
theorem dX7_wouldOverrun_27 : decode cX7_wouldOverrun 27 = .ok (.checkcast 56, 3) := by decide +kernel
theorem dX7_wouldOverrun_30 : decode cX7_wouldOverrun 30 = .ok (.astore_n 2, 1) := by decide +kernel
theorem dX7_wouldOverrun_31 : decode cX7_wouldOverrun 31 = .ok (.aload_n 2, 1) := by decide +kernel
theorem dX7_wouldOverrun_32 : decode cX7_wouldOverrun 32 = .ok (.iconst 0, 1) := by decide +kernel
theorem dX7_wouldOverrun_33 : decode cX7_wouldOverrun 33 = .ok (.iaload, 1) := by decide +kernel
theorem dX7_wouldOverrun_34 : decode cX7_wouldOverrun 34 = .ok (.iconst 1, 1) := by decide +kernel
theorem dX7_wouldOverrun_35 : decode cX7_wouldOverrun 35 = .ok (.if_icmp .gt 22, 3) := by decide +kernel
theorem dX7_wouldOverrun_38 : decode cX7_wouldOverrun 38 = .ok (.iconst 0, 1) := by decide +kernel
theorem dX7_wouldOverrun_39 : decode cX7_wouldOverrun 39 = .ok (.aload_n 2, 1) := by decide +kernel
theorem dX7_wouldOverrun_40 : decode cX7_wouldOverrun 40 = .ok (.aload_n 0, 1) := by decide +kernel
theorem dX7_wouldOverrun_41 : decode cX7_wouldOverrun 41 = .ok (.invokevirtual 153, 3) := by decide +kernel
theorem dX7_wouldOverrun_44 : decode cX7_wouldOverrun 44 = .ok (.invokestatic 157, 3) := by decide +kernel
theorem dX7_wouldOverrun_47 : decode cX7_wouldOverrun 47 = .ok (.aload_n 2, 1) := by decide +kernel
theorem dX7_wouldOverrun_48 : decode cX7_wouldOverrun 48 = .ok (.iconst 5, 1) := by decide +kernel
theorem dX7_wouldOverrun_49 : decode cX7_wouldOverrun 49 = .ok (.iaload, 1) := by decide +kernel
theorem dX7_wouldOverrun_50 : decode cX7_wouldOverrun 50 = .ok (.isub, 1) := by decide +kernel
theorem dX7_wouldOverrun_51 : decode cX7_wouldOverrun 51 = .ok (.invokestatic 150, 3) := by decide +kernel
theorem dX7_wouldOverrun_54 : decode cX7_wouldOverrun 54 = .ok (.goto 8, 3) := by decide +kernel
theorem dX7_wouldOverrun_57 : decode cX7_wouldOverrun 57 = .ok (.aload_n 0, 1) := by decide +kernel
theorem dX7_wouldOverrun_58 : decode cX7_wouldOverrun 58 = .ok (.iconst 2, 1) := by decide +kernel
theorem dX7_wouldOverrun_59 : decode cX7_wouldOverrun 59 = .ok (.invokevirtual 76, 3) := by decide +kernel
theorem dX7_wouldOverrun_62 : decode cX7_wouldOverrun 62 = .ok (.ireturn, 1) := by decide +kernel
theorem dX7_add_0 : decode cX7_add 0 = .ok (.aload_n 0, 1) := by decide +kernel
theorem dX7_add_1 : decode cX7_add 1 = .ok (.aload_n 0, 1) := by decide +kernel
theorem dX7_add_2 : decode cX7_add 2 = .ok (.getfield 216, 3) := by decide +kernel
theorem dX7_add_5 : decode cX7_add 5 = .ok (.ldc2_w 220, 3) := by decide +kernel
theorem dX7_add_8 : decode cX7_add 8 = .ok (.lmul, 1) := by decide +kernel
theorem dX7_add_9 : decode cX7_add 9 = .ok (.iload_n 1, 1) := by decide +kernel
theorem dX7_add_10 : decode cX7_add 10 = .ok (.i2l, 1) := by decide +kernel
theorem dX7_add_11 : decode cX7_add 11 = .ok (.ladd, 1) := by decide +kernel
theorem dX7_add_12 : decode cX7_add 12 = .ok (.putfield 216, 3) := by decide +kernel
theorem dX7_add_15 : decode cX7_add 15 = .ok (.return_, 1) := by decide +kernel
theorem dX7_digest_0 : decode cX7_digest 0 = .ok (.aload_n 0, 1) := by decide +kernel
theorem dX7_digest_1 : decode cX7_digest 1 = .ok (.iconst 0, 1) := by decide +kernel
theorem dX7_digest_2 : decode cX7_digest 2 = .ok (.putfield 31, 3) := by decide +kernel
theorem dX7_digest_5 : decode cX7_digest 5 = .ok (.aload_n 0, 1) := by decide +kernel
theorem dX7_digest_6 : decode cX7_digest 6 = .ok (.ldc2_w 222, 3) := by decide +kernel
theorem dX7_digest_9 : decode cX7_digest 9 = .ok (.putfield 216, 3) := by decide +kernel
theorem dX7_digest_12 : decode cX7_digest 12 = .ok (.iconst 0, 1) := by decide +kernel
theorem dX7_digest_13 : decode cX7_digest 13 = .ok (.istore_n 1, 1) := by decide +kernel
theorem dX7_digest_14 : decode cX7_digest 14 = .ok (.iload_n 1, 1) := by decide +kernel
theorem dX7_digest_15 : decode cX7_digest 15 = .ok (.bipush 17, 2) := by decide +kernel
theorem dX7_digest_17 : decode cX7_digest 17 = .ok (.if_icmp .ge 18, 3) := by decide +kernel
theorem dX7_digest_20 : decode cX7_digest 20 = .ok (.aload_n 0, 1) := by decide +kernel
theorem dX7_digest_21 : decode cX7_digest 21 = .ok (.aload_n 0, 1) := by decide +kernel
theorem dX7_digest_22 : decode cX7_digest 22 = .ok (.iload_n 1, 1) := by decide +kernel
theorem dX7_digest_23 : decode cX7_digest 23 = .ok (.invokevirtual 191, 3) := by decide +kernel
theorem dX7_digest_26 : decode cX7_digest 26 = .ok (.invokevirtual 224, 3) := by decide +kernel
theorem dX7_digest_29 : decode cX7_digest 29 = .ok (.iinc 1 1, 3) := by decide +kernel
theorem dX7_digest_32 : decode cX7_digest 32 = .ok (.goto (-18), 3) := by decide +kernel
theorem dX7_digest_35 : decode cX7_digest 35 = .ok (.iconst 0, 1) := by decide +kernel
theorem dX7_digest_36 : decode cX7_digest 36 = .ok (.istore_n 1, 1) := by decide +kernel
theorem dX7_digest_37 : decode cX7_digest 37 = .ok (.iload_n 1, 1) := by decide +kernel
theorem dX7_digest_38 : decode cX7_digest 38 = .ok (.bipush 20, 2) := by decide +kernel
theorem dX7_digest_40 : decode cX7_digest 40 = .ok (.if_icmp .ge 109, 3) := by decide +kernel
theorem dX7_digest_43 : decode cX7_digest 43 = .ok (.iconst 0, 1) := by decide +kernel
theorem dX7_digest_44 : decode cX7_digest 44 = .ok (.istore_n 2, 1) := by decide +kernel
theorem dX7_digest_45 : decode cX7_digest 45 = .ok (.iload_n 2, 1) := by decide +kernel
theorem dX7_digest_46 : decode cX7_digest 46 = .ok (.bipush 8, 2) := by decide +kernel
theorem dX7_digest_48 : decode cX7_digest 48 = .ok (.if_icmp .ge 19, 3) := by decide +kernel
theorem dX7_digest_51 : decode cX7_digest 51 = .ok (.aload_n 0, 1) := by decide +kernel
theorem dX7_digest_52 : decode cX7_digest 52 = .ok (.aload_n 0, 1) := by decide +kernel
theorem dX7_digest_53 : decode cX7_digest 53 = .ok (.iload_n 1, 1) := by decide +kernel
theorem dX7_digest_54 : decode cX7_digest 54 = .ok (.iload_n 2, 1) := by decide +kernel
theorem dX7_digest_55 : decode cX7_digest 55 = .ok (.invokevirtual 171, 3) := by decide +kernel
theorem dX7_digest_58 : decode cX7_digest 58 = .ok (.invokevirtual 224, 3) := by decide +kernel
theorem dX7_digest_61 : decode cX7_digest 61 = .ok (.iinc 2 1, 3) := by decide +kernel
theorem dX7_digest_64 : decode cX7_digest 64 = .ok (.goto (-19), 3) := by decide +kernel
theorem dX7_digest_67 : decode cX7_digest 67 = .ok (.iconst 0, 1) := by decide +kernel
theorem dX7_digest_68 : decode cX7_digest 68 = .ok (.istore_n 2, 1) := by decide +kernel
theorem dX7_digest_69 : decode cX7_digest 69 = .ok (.iload_n 2, 1) := by decide +kernel
theorem dX7_digest_70 : decode cX7_digest 70 = .ok (.iconst 5, 1) := by decide +kernel
theorem dX7_digest_71 : decode cX7_digest 71 = .ok (.if_icmp .ge 19, 3) := by decide +kernel
theorem dX7_digest_74 : decode cX7_digest 74 = .ok (.aload_n 0, 1) := by decide +kernel
theorem dX7_digest_75 : decode cX7_digest 75 = .ok (.aload_n 0, 1) := by decide +kernel
theorem dX7_digest_76 : decode cX7_digest 76 = .ok (.iload_n 1, 1) := by decide +kernel
theorem dX7_digest_77 : decode cX7_digest 77 = .ok (.iload_n 2, 1) := by decide +kernel
theorem dX7_digest_78 : decode cX7_digest 78 = .ok (.invokevirtual 178, 3) := by decide +kernel
theorem dX7_digest_81 : decode cX7_digest 81 = .ok (.invokevirtual 224, 3) := by decide +kernel
theorem dX7_digest_84 : decode cX7_digest 84 = .ok (.iinc 2 1, 3) := by decide +kernel
theorem dX7_digest_87 : decode cX7_digest 87 = .ok (.goto (-18), 3) := by decide +kernel
theorem dX7_digest_90 : decode cX7_digest 90 = .ok (.aload_n 0, 1) := by decide +kernel
theorem dX7_digest_91 : decode cX7_digest 91 = .ok (.aload_n 0, 1) := by decide +kernel
theorem dX7_digest_92 : decode cX7_digest 92 = .ok (.iload_n 1, 1) := by decide +kernel
theorem dX7_digest_93 : decode cX7_digest 93 = .ok (.iconst 0, 1) := by decide +kernel
theorem dX7_digest_94 : decode cX7_digest 94 = .ok (.invokevirtual 184, 3) := by decide +kernel
theorem dX7_digest_97 : decode cX7_digest 97 = .ok (.invokevirtual 224, 3) := by decide +kernel
theorem dX7_digest_100 : decode cX7_digest 100 = .ok (.aload_n 0, 1) := by decide +kernel
theorem dX7_digest_101 : decode cX7_digest 101 = .ok (.aload_n 0, 1) := by decide +kernel
theorem dX7_digest_102 : decode cX7_digest 102 = .ok (.iload_n 1, 1) := by decide +kernel
theorem dX7_digest_103 : decode cX7_digest 103 = .ok (.iconst 1, 1) := by decide +kernel
theorem dX7_digest_104 : decode cX7_digest 104 = .ok (.invokevirtual 184, 3) := by decide +kernel
theorem dX7_digest_107 : decode cX7_digest 107 = .ok (.invokevirtual 224, 3) := by decide +kernel
theorem dX7_digest_110 : decode cX7_digest 110 = .ok (.aload_n 0, 1) := by decide +kernel
theorem dX7_digest_111 : decode cX7_digest 111 = .ok (.aload_n 0, 1) := by decide +kernel
theorem dX7_digest_112 : decode cX7_digest 112 = .ok (.iload_n 1, 1) := by decide +kernel
theorem dX7_digest_113 : decode cX7_digest 113 = .ok (.invokevirtual 196, 3) := by decide +kernel
theorem dX7_digest_116 : decode cX7_digest 116 = .ok (.invokevirtual 224, 3) := by decide +kernel
theorem dX7_digest_119 : decode cX7_digest 119 = .ok (.aload_n 0, 1) := by decide +kernel
theorem dX7_digest_120 : decode cX7_digest 120 = .ok (.aload_n 0, 1) := by decide +kernel
theorem dX7_digest_121 : decode cX7_digest 121 = .ok (.iload_n 1, 1) := by decide +kernel
theorem dX7_digest_122 : decode cX7_digest 122 = .ok (.bipush 20, 2) := by decide +kernel
theorem dX7_digest_124 : decode cX7_digest 124 = .ok (.invokevirtual 202, 3) := by decide +kernel
theorem dX7_digest_127 : decode cX7_digest 127 = .ok (.invokevirtual 224, 3) := by decide +kernel
theorem dX7_digest_130 : decode cX7_digest 130 = .ok (.aload_n 0, 1) := by decide +kernel
theorem dX7_digest_131 : decode cX7_digest 131 = .ok (.aload_n 0, 1) := by decide +kernel
theorem dX7_digest_132 : decode cX7_digest 132 = .ok (.iload_n 1, 1) := by decide +kernel
theorem dX7_digest_133 : decode cX7_digest 133 = .ok (.bipush 20, 2) := by decide +kernel
theorem dX7_digest_135 : decode cX7_digest 135 = .ok (.bipush 30, 2) := by decide +kernel
theorem dX7_digest_137 : decode cX7_digest 137 = .ok (.invokevirtual 209, 3) := by decide +kernel
theorem dX7_digest_140 : decode cX7_digest 140 = .ok (.invokevirtual 224, 3) := by decide +kernel
theorem dX7_digest_143 : decode cX7_digest 143 = .ok (.iinc 1 1, 3) := by decide +kernel
theorem dX7_digest_146 : decode cX7_digest 146 = .ok (.goto (-109), 3) := by decide +kernel
theorem dX7_digest_149 : decode cX7_digest 149 = .ok (.aload_n 0, 1) := by decide +kernel
theorem dX7_digest_150 : decode cX7_digest 150 = .ok (.getfield 17, 3) := by decide +kernel
theorem dX7_digest_153 : decode cX7_digest 153 = .ok (.invokevirtual 79, 3) := by decide +kernel
theorem dX7_digest_156 : decode cX7_digest 156 = .ok (.astore_n 1, 1) := by decide +kernel
theorem dX7_digest_157 : decode cX7_digest 157 = .ok (.aload_n 1, 1) := by decide +kernel
theorem dX7_digest_158 : decode cX7_digest 158 = .ok (.invokeinterface 83 1, 5) := by decide +kernel
theorem dX7_digest_163 : decode cX7_digest 163 = .ok (.ifCond .eq 50, 3) := by decide +kernel
theorem dX7_digest_166 : decode cX7_digest 166 = .ok (.aload_n 1, 1) := by decide +kernel
theorem dX7_digest_167 : decode cX7_digest 167 = .ok (.invokeinterface 89 1, 5) := by decide +kernel
theorem dX7_digest_172 : decode cX7_digest 172 = .ok (.checkcast 56, 3) := by decide +kernel
theorem dX7_digest_175 : decode cX7_digest 175 = .ok (.astore_n 2, 1) := by decide +kernel
theorem dX7_digest_176 : decode cX7_digest 176 = .ok (.aload_n 2, 1) := by decide +kernel
theorem dX7_digest_177 : decode cX7_digest 177 = .ok (.astore_n 3, 1) := by decide +kernel
theorem dX7_digest_178 : decode cX7_digest 178 = .ok (.aload_n 3, 1) := by decide +kernel
theorem dX7_digest_179 : decode cX7_digest 179 = .ok (.arraylength, 1) := by decide +kernel
theorem dX7_digest_180 : decode cX7_digest 180 = .ok (.istore 4, 2) := by decide +kernel
theorem dX7_digest_182 : decode cX7_digest 182 = .ok (.iconst 0, 1) := by decide +kernel
theorem dX7_digest_183 : decode cX7_digest 183 = .ok (.istore 5, 2) := by decide +kernel
theorem dX7_digest_185 : decode cX7_digest 185 = .ok (.iload 5, 2) := by decide +kernel
theorem dX7_digest_187 : decode cX7_digest 187 = .ok (.iload 4, 2) := by decide +kernel
theorem dX7_digest_189 : decode cX7_digest 189 = .ok (.if_icmp .ge 21, 3) := by decide +kernel
theorem dX7_digest_192 : decode cX7_digest 192 = .ok (.aload_n 3, 1) := by decide +kernel
theorem dX7_digest_193 : decode cX7_digest 193 = .ok (.iload 5, 2) := by decide +kernel
theorem dX7_digest_195 : decode cX7_digest 195 = .ok (.iaload, 1) := by decide +kernel
theorem dX7_digest_196 : decode cX7_digest 196 = .ok (.istore 6, 2) := by decide +kernel
theorem dX7_digest_198 : decode cX7_digest 198 = .ok (.aload_n 0, 1) := by decide +kernel
theorem dX7_digest_199 : decode cX7_digest 199 = .ok (.iload 6, 2) := by decide +kernel
theorem dX7_digest_201 : decode cX7_digest 201 = .ok (.invokevirtual 224, 3) := by decide +kernel
theorem dX7_digest_204 : decode cX7_digest 204 = .ok (.iinc 5 1, 3) := by decide +kernel
theorem dX7_digest_207 : decode cX7_digest 207 = .ok (.goto (-22), 3) := by decide +kernel
theorem dX7_digest_210 : decode cX7_digest 210 = .ok (.goto (-53), 3) := by decide +kernel
theorem dX7_digest_213 : decode cX7_digest 213 = .ok (.iconst 0, 1) := by decide +kernel
theorem dX7_digest_214 : decode cX7_digest 214 = .ok (.istore_n 1, 1) := by decide +kernel
theorem dX7_digest_215 : decode cX7_digest 215 = .ok (.iload_n 1, 1) := by decide +kernel
theorem dX7_digest_216 : decode cX7_digest 216 = .ok (.aload_n 0, 1) := by decide +kernel
theorem dX7_digest_217 : decode cX7_digest 217 = .ok (.getfield 21, 3) := by decide +kernel
theorem dX7_digest_220 : decode cX7_digest 220 = .ok (.invokevirtual 64, 3) := by decide +kernel
theorem dX7_digest_223 : decode cX7_digest 223 = .ok (.if_icmp .ge 33, 3) := by decide +kernel
theorem dX7_digest_226 : decode cX7_digest 226 = .ok (.iconst 0, 1) := by decide +kernel
theorem dX7_digest_227 : decode cX7_digest 227 = .ok (.istore_n 2, 1) := by decide +kernel
theorem dX7_digest_228 : decode cX7_digest 228 = .ok (.iload_n 2, 1) := by decide +kernel
theorem dX7_digest_229 : decode cX7_digest 229 = .ok (.bipush 10, 2) := by decide +kernel
theorem dX7_digest_231 : decode cX7_digest 231 = .ok (.if_icmp .ge 19, 3) := by decide +kernel
theorem dX7_digest_234 : decode cX7_digest 234 = .ok (.aload_n 0, 1) := by decide +kernel
theorem dX7_digest_235 : decode cX7_digest 235 = .ok (.aload_n 0, 1) := by decide +kernel
theorem dX7_digest_236 : decode cX7_digest 236 = .ok (.iload_n 1, 1) := by decide +kernel
theorem dX7_digest_237 : decode cX7_digest 237 = .ok (.iload_n 2, 1) := by decide +kernel
theorem dX7_digest_238 : decode cX7_digest 238 = .ok (.invokevirtual 188, 3) := by decide +kernel
theorem dX7_digest_241 : decode cX7_digest 241 = .ok (.invokevirtual 224, 3) := by decide +kernel
theorem dX7_digest_244 : decode cX7_digest 244 = .ok (.iinc 2 1, 3) := by decide +kernel
theorem dX7_digest_247 : decode cX7_digest 247 = .ok (.goto (-19), 3) := by decide +kernel
theorem dX7_digest_250 : decode cX7_digest 250 = .ok (.iinc 1 1, 3) := by decide +kernel
theorem dX7_digest_253 : decode cX7_digest 253 = .ok (.goto (-38), 3) := by decide +kernel
theorem dX7_digest_256 : decode cX7_digest 256 = .ok (.aload_n 0, 1) := by decide +kernel
theorem dX7_digest_257 : decode cX7_digest 257 = .ok (.aload_n 0, 1) := by decide +kernel
theorem dX7_digest_258 : decode cX7_digest 258 = .ok (.iconst 0, 1) := by decide +kernel
theorem dX7_digest_259 : decode cX7_digest 259 = .ok (.iconst 0, 1) := by decide +kernel
theorem dX7_digest_260 : decode cX7_digest 260 = .ok (.bipush 9, 2) := by decide +kernel
theorem dX7_digest_262 : decode cX7_digest 262 = .ok (.invokevirtual 213, 3) := by decide +kernel
theorem dX7_digest_265 : decode cX7_digest 265 = .ok (.invokevirtual 224, 3) := by decide +kernel
theorem dX7_digest_268 : decode cX7_digest 268 = .ok (.aload_n 0, 1) := by decide +kernel
theorem dX7_digest_269 : decode cX7_digest 269 = .ok (.aload_n 0, 1) := by decide +kernel
theorem dX7_digest_270 : decode cX7_digest 270 = .ok (.iconst 1, 1) := by decide +kernel
theorem dX7_digest_271 : decode cX7_digest 271 = .ok (.iconst 3, 1) := by decide +kernel
theorem dX7_digest_272 : decode cX7_digest 272 = .ok (.iconst 5, 1) := by decide +kernel
theorem dX7_digest_273 : decode cX7_digest 273 = .ok (.invokevirtual 213, 3) := by decide +kernel
theorem dX7_digest_276 : decode cX7_digest 276 = .ok (.invokevirtual 224, 3) := by decide +kernel
theorem dX7_digest_279 : decode cX7_digest 279 = .ok (.aload_n 0, 1) := by decide +kernel
theorem dX7_digest_280 : decode cX7_digest 280 = .ok (.getfield 216, 3) := by decide +kernel
theorem dX7_digest_283 : decode cX7_digest 283 = .ok (.lreturn, 1) := by decide +kernel
theorem dJ6_bitCount_0f7a4_0 : decode cJ6_bitCount_0f7a4 0 = .ok (.iload_n 0, 1) := by decide +kernel
theorem dJ6_bitCount_0f7a4_1 : decode cJ6_bitCount_0f7a4 1 = .ok (.iload_n 0, 1) := by decide +kernel
theorem dJ6_bitCount_0f7a4_2 : decode cJ6_bitCount_0f7a4 2 = .ok (.iconst 1, 1) := by decide +kernel
theorem dJ6_bitCount_0f7a4_3 : decode cJ6_bitCount_0f7a4 3 = .ok (.iushr, 1) := by decide +kernel
theorem dJ6_bitCount_0f7a4_4 : decode cJ6_bitCount_0f7a4 4 = .ok (.ldc_w 265, 3) := by decide +kernel
theorem dJ6_bitCount_0f7a4_7 : decode cJ6_bitCount_0f7a4 7 = .ok (.iand, 1) := by decide +kernel
theorem dJ6_bitCount_0f7a4_8 : decode cJ6_bitCount_0f7a4 8 = .ok (.isub, 1) := by decide +kernel
theorem dJ6_bitCount_0f7a4_9 : decode cJ6_bitCount_0f7a4 9 = .ok (.istore_n 0, 1) := by decide +kernel
theorem dJ6_bitCount_0f7a4_10 : decode cJ6_bitCount_0f7a4 10 = .ok (.iload_n 0, 1) := by decide +kernel
theorem dJ6_bitCount_0f7a4_11 : decode cJ6_bitCount_0f7a4 11 = .ok (.ldc_w 266, 3) := by decide +kernel
theorem dJ6_bitCount_0f7a4_14 : decode cJ6_bitCount_0f7a4 14 = .ok (.iand, 1) := by decide +kernel
theorem dJ6_bitCount_0f7a4_15 : decode cJ6_bitCount_0f7a4 15 = .ok (.iload_n 0, 1) := by decide +kernel
theorem dJ6_bitCount_0f7a4_16 : decode cJ6_bitCount_0f7a4 16 = .ok (.iconst 2, 1) := by decide +kernel
theorem dJ6_bitCount_0f7a4_17 : decode cJ6_bitCount_0f7a4 17 = .ok (.iushr, 1) := by decide +kernel
theorem dJ6_bitCount_0f7a4_18 : decode cJ6_bitCount_0f7a4 18 = .ok (.ldc_w 266, 3) := by decide +kernel
theorem dJ6_bitCount_0f7a4_21 : decode cJ6_bitCount_0f7a4 21 = .ok (.iand, 1) := by decide +kernel
theorem dJ6_bitCount_0f7a4_22 : decode cJ6_bitCount_0f7a4 22 = .ok (.iadd, 1) := by decide +kernel
theorem dJ6_bitCount_0f7a4_23 : decode cJ6_bitCount_0f7a4 23 = .ok (.istore_n 0, 1) := by decide +kernel
theorem dJ6_bitCount_0f7a4_24 : decode cJ6_bitCount_0f7a4 24 = .ok (.iload_n 0, 1) := by decide +kernel
theorem dJ6_bitCount_0f7a4_25 : decode cJ6_bitCount_0f7a4 25 = .ok (.iload_n 0, 1) := by decide +kernel
theorem dJ6_bitCount_0f7a4_26 : decode cJ6_bitCount_0f7a4 26 = .ok (.iconst 4, 1) := by decide +kernel
theorem dJ6_bitCount_0f7a4_27 : decode cJ6_bitCount_0f7a4 27 = .ok (.iushr, 1) := by decide +kernel
theorem dJ6_bitCount_0f7a4_28 : decode cJ6_bitCount_0f7a4 28 = .ok (.iadd, 1) := by decide +kernel
theorem dJ6_bitCount_0f7a4_29 : decode cJ6_bitCount_0f7a4 29 = .ok (.ldc_w 267, 3) := by decide +kernel
theorem dJ6_bitCount_0f7a4_32 : decode cJ6_bitCount_0f7a4 32 = .ok (.iand, 1) := by decide +kernel
theorem dJ6_bitCount_0f7a4_33 : decode cJ6_bitCount_0f7a4 33 = .ok (.istore_n 0, 1) := by decide +kernel
theorem dJ6_bitCount_0f7a4_34 : decode cJ6_bitCount_0f7a4 34 = .ok (.iload_n 0, 1) := by decide +kernel
theorem dJ6_bitCount_0f7a4_35 : decode cJ6_bitCount_0f7a4 35 = .ok (.iload_n 0, 1) := by decide +kernel
theorem dJ6_bitCount_0f7a4_36 : decode cJ6_bitCount_0f7a4 36 = .ok (.bipush 8, 2) := by decide +kernel
theorem dJ6_bitCount_0f7a4_38 : decode cJ6_bitCount_0f7a4 38 = .ok (.iushr, 1) := by decide +kernel
theorem dJ6_bitCount_0f7a4_39 : decode cJ6_bitCount_0f7a4 39 = .ok (.iadd, 1) := by decide +kernel
theorem dJ6_bitCount_0f7a4_40 : decode cJ6_bitCount_0f7a4 40 = .ok (.istore_n 0, 1) := by decide +kernel
theorem dJ6_bitCount_0f7a4_41 : decode cJ6_bitCount_0f7a4 41 = .ok (.iload_n 0, 1) := by decide +kernel
theorem dJ6_bitCount_0f7a4_42 : decode cJ6_bitCount_0f7a4 42 = .ok (.iload_n 0, 1) := by decide +kernel
theorem dJ6_bitCount_0f7a4_43 : decode cJ6_bitCount_0f7a4 43 = .ok (.bipush 16, 2) := by decide +kernel
theorem dJ6_bitCount_0f7a4_45 : decode cJ6_bitCount_0f7a4 45 = .ok (.iushr, 1) := by decide +kernel
theorem dJ6_bitCount_0f7a4_46 : decode cJ6_bitCount_0f7a4 46 = .ok (.iadd, 1) := by decide +kernel
theorem dJ6_bitCount_0f7a4_47 : decode cJ6_bitCount_0f7a4 47 = .ok (.istore_n 0, 1) := by decide +kernel
theorem dJ6_bitCount_0f7a4_48 : decode cJ6_bitCount_0f7a4 48 = .ok (.iload_n 0, 1) := by decide +kernel
theorem dJ6_bitCount_0f7a4_49 : decode cJ6_bitCount_0f7a4 49 = .ok (.bipush 63, 2) := by decide +kernel
theorem dJ6_bitCount_0f7a4_51 : decode cJ6_bitCount_0f7a4 51 = .ok (.iand, 1) := by decide +kernel
theorem dJ6_bitCount_0f7a4_52 : decode cJ6_bitCount_0f7a4 52 = .ok (.ireturn, 1) := by decide +kernel
theorem dJ9_max_7cf53_0 : decode cJ9_max_7cf53 0 = .ok (.iload_n 0, 1) := by decide +kernel
theorem dJ9_max_7cf53_1 : decode cJ9_max_7cf53 1 = .ok (.iload_n 1, 1) := by decide +kernel
theorem dJ9_max_7cf53_2 : decode cJ9_max_7cf53 2 = .ok (.if_icmp .lt 7, 3) := by decide +kernel
theorem dJ9_max_7cf53_5 : decode cJ9_max_7cf53 5 = .ok (.iload_n 0, 1) := by decide +kernel
theorem dJ9_max_7cf53_6 : decode cJ9_max_7cf53 6 = .ok (.goto 4, 3) := by decide +kernel
theorem dJ9_max_7cf53_9 : decode cJ9_max_7cf53 9 = .ok (.iload_n 1, 1) := by decide +kernel
theorem dJ9_max_7cf53_10 : decode cJ9_max_7cf53 10 = .ok (.ireturn, 1) := by decide +kernel
theorem dJ9_min_7cf53_0 : decode cJ9_min_7cf53 0 = .ok (.iload_n 0, 1) := by decide +kernel
theorem dJ9_min_7cf53_1 : decode cJ9_min_7cf53 1 = .ok (.iload_n 1, 1) := by decide +kernel
theorem dJ9_min_7cf53_2 : decode cJ9_min_7cf53 2 = .ok (.if_icmp .gt 7, 3) := by decide +kernel
theorem dJ9_min_7cf53_5 : decode cJ9_min_7cf53 5 = .ok (.iload_n 0, 1) := by decide +kernel
theorem dJ9_min_7cf53_6 : decode cJ9_min_7cf53 6 = .ok (.goto 4, 3) := by decide +kernel
theorem dJ9_min_7cf53_9 : decode cJ9_min_7cf53 9 = .ok (.iload_n 1, 1) := by decide +kernel
theorem dJ9_min_7cf53_10 : decode cJ9_min_7cf53 10 = .ok (.ireturn, 1) := by decide +kernel
theorem dJxa1e45_init_da8c8_0 : decode cJxa1e45_init_da8c8 0 = .ok (.aload_n 0, 1) := by decide +kernel
theorem dJxa1e45_init_da8c8_1 : decode cJxa1e45_init_da8c8 1 = .ok (.invokespecial 1, 3) := by decide +kernel
theorem dJxa1e45_init_da8c8_4 : decode cJxa1e45_init_da8c8 4 = .ok (.return_, 1) := by decide +kernel
theorem dJxc12de_init_da8c8_0 : decode cJxc12de_init_da8c8 0 = .ok (.aload_n 0, 1) := by decide +kernel
theorem dJxc12de_init_da8c8_1 : decode cJxc12de_init_da8c8 1 = .ok (.invokespecial 1, 3) := by decide +kernel
theorem dJxc12de_init_da8c8_4 : decode cJxc12de_init_da8c8 4 = .ok (.aload_n 0, 1) := by decide +kernel
theorem dJxc12de_init_da8c8_5 : decode cJxc12de_init_da8c8 5 = .ok (.iconst 0, 1) := by decide +kernel
theorem dJxc12de_init_da8c8_6 : decode cJxc12de_init_da8c8 6 = .ok (.putfield 7, 3) := by decide +kernel
theorem dJxc12de_init_da8c8_9 : decode cJxc12de_init_da8c8 9 = .ok (.return_, 1) := by decide +kernel
theorem dJx35411_init_45d68_0 : decode cJx35411_init_45d68 0 = .ok (.aload_n 0, 1) := by decide +kernel
theorem dJx35411_init_45d68_1 : decode cJx35411_init_45d68 1 = .ok (.aload_n 1, 1) := by decide +kernel
theorem dJx35411_init_45d68_2 : decode cJx35411_init_45d68 2 = .ok (.putfield 1, 3) := by decide +kernel
theorem dJx35411_init_45d68_5 : decode cJx35411_init_45d68 5 = .ok (.aload_n 0, 1) := by decide +kernel
theorem dJx35411_init_45d68_6 : decode cJx35411_init_45d68 6 = .ok (.invokespecial 7, 3) := by decide +kernel
theorem dJx35411_init_45d68_9 : decode cJx35411_init_45d68 9 = .ok (.aload_n 0, 1) := by decide +kernel
theorem dJx35411_init_45d68_10 : decode cJx35411_init_45d68 10 = .ok (.iconst (-1), 1) := by decide +kernel
theorem dJx35411_init_45d68_11 : decode cJx35411_init_45d68 11 = .ok (.putfield 13, 3) := by decide +kernel
theorem dJx35411_init_45d68_14 : decode cJx35411_init_45d68 14 = .ok (.aload_n 0, 1) := by decide +kernel
theorem dJx35411_init_45d68_15 : decode cJx35411_init_45d68 15 = .ok (.aload_n 0, 1) := by decide +kernel
theorem dJx35411_init_45d68_16 : decode cJx35411_init_45d68 16 = .ok (.getfield 1, 3) := by decide +kernel
theorem dJx35411_init_45d68_19 : decode cJx35411_init_45d68 19 = .ok (.getfield 17, 3) := by decide +kernel
theorem dJx35411_init_45d68_22 : decode cJx35411_init_45d68 22 = .ok (.putfield 22, 3) := by decide +kernel
theorem dJx35411_init_45d68_25 : decode cJx35411_init_45d68 25 = .ok (.return_, 1) := by decide +kernel
theorem dJx35411_hasNext_aae02_0 : decode cJx35411_hasNext_aae02 0 = .ok (.aload_n 0, 1) := by decide +kernel
theorem dJx35411_hasNext_aae02_1 : decode cJx35411_hasNext_aae02 1 = .ok (.getfield 25, 3) := by decide +kernel
theorem dJx35411_hasNext_aae02_4 : decode cJx35411_hasNext_aae02 4 = .ok (.aload_n 0, 1) := by decide +kernel
theorem dJx35411_hasNext_aae02_5 : decode cJx35411_hasNext_aae02 5 = .ok (.getfield 1, 3) := by decide +kernel
theorem dJx35411_hasNext_aae02_8 : decode cJx35411_hasNext_aae02 8 = .ok (.getfield 28, 3) := by decide +kernel
theorem dJx35411_hasNext_aae02_11 : decode cJx35411_hasNext_aae02 11 = .ok (.if_icmp .eq 7, 3) := by decide +kernel
theorem dJx35411_hasNext_aae02_14 : decode cJx35411_hasNext_aae02 14 = .ok (.iconst 1, 1) := by decide +kernel
theorem dJx35411_hasNext_aae02_15 : decode cJx35411_hasNext_aae02 15 = .ok (.goto 4, 3) := by decide +kernel
theorem dJx35411_hasNext_aae02_18 : decode cJx35411_hasNext_aae02 18 = .ok (.iconst 0, 1) := by decide +kernel
theorem dJx35411_hasNext_aae02_19 : decode cJx35411_hasNext_aae02 19 = .ok (.ireturn, 1) := by decide +kernel
theorem dJx35411_next_0502b_0 : decode cJx35411_next_0502b 0 = .ok (.aload_n 0, 1) := by decide +kernel
theorem dJx35411_next_0502b_1 : decode cJx35411_next_0502b 1 = .ok (.invokevirtual 31, 3) := by decide +kernel
theorem dJx35411_next_0502b_4 : decode cJx35411_next_0502b 4 = .ok (.aload_n 0, 1) := by decide +kernel
theorem dJx35411_next_0502b_5 : decode cJx35411_next_0502b 5 = .ok (.getfield 25, 3) := by decide +kernel
theorem dJx35411_next_0502b_8 : decode cJx35411_next_0502b 8 = .ok (.istore_n 1, 1) := by decide +kernel
theorem dJx35411_next_0502b_9 : decode cJx35411_next_0502b 9 = .ok (.iload_n 1, 1) := by decide +kernel
theorem dJx35411_next_0502b_10 : decode cJx35411_next_0502b 10 = .ok (.aload_n 0, 1) := by decide +kernel
theorem dJx35411_next_0502b_11 : decode cJx35411_next_0502b 11 = .ok (.getfield 1, 3) := by decide +kernel
theorem dJx35411_next_0502b_14 : decode cJx35411_next_0502b 14 = .ok (.getfield 28, 3) := by decide +kernel
theorem dJx35411_next_0502b_17 : decode cJx35411_next_0502b 17 = .ok (.if_icmp .lt 11, 3) := by decide +kernel
theorem dJx35411_next_0502b_20 : decode cJx35411_next_0502b 20 = .ok (.new 34, 3) := by decide +kernel
theorem dJx35411_next_0502b_23 : decode cJx35411_next_0502b 23 = .ok (.dup, 1) := by decide +kernel
theorem dJx35411_next_0502b_24 : decode cJx35411_next_0502b 24 = .ok (.invokespecial 36, 3) := by decide +kernel
theorem dJx35411_next_0502b_27 : decode cJx35411_next_0502b 27 = .ok (.athrow, 1) := by decide +kernel
theorem dJx35411_next_0502b_28 : decode cJx35411_next_0502b 28 = .ok (.aload_n 0, 1) := by decide +kernel
theorem dJx35411_next_0502b_29 : decode cJx35411_next_0502b 29 = .ok (.getfield 1, 3) := by decide +kernel
theorem dJx35411_next_0502b_32 : decode cJx35411_next_0502b 32 = .ok (.getfield 37, 3) := by decide +kernel
theorem dJx35411_next_0502b_35 : decode cJx35411_next_0502b 35 = .ok (.astore_n 2, 1) := by decide +kernel
theorem dJx35411_next_0502b_36 : decode cJx35411_next_0502b 36 = .ok (.iload_n 1, 1) := by decide +kernel
theorem dJx35411_next_0502b_37 : decode cJx35411_next_0502b 37 = .ok (.aload_n 2, 1) := by decide +kernel
theorem dJx35411_next_0502b_38 : decode cJx35411_next_0502b 38 = .ok (.arraylength, 1) := by decide +kernel
theorem dJx35411_next_0502b_39 : decode cJx35411_next_0502b 39 = .ok (.if_icmp .lt 11, 3) := by decide +kernel
theorem dJx35411_next_0502b_42 : decode cJx35411_next_0502b 42 = .ok (.new 41, 3) := by decide +kernel
theorem dJx35411_next_0502b_45 : decode cJx35411_next_0502b 45 = .ok (.dup, 1) := by decide +kernel
theorem dJx35411_next_0502b_46 : decode cJx35411_next_0502b 46 = .ok (.invokespecial 43, 3) := by decide +kernel
theorem dJx35411_next_0502b_49 : decode cJx35411_next_0502b 49 = .ok (.athrow, 1) := by decide +kernel
theorem dJx35411_next_0502b_50 : decode cJx35411_next_0502b 50 = .ok (.aload_n 0, 1) := by decide +kernel
theorem dJx35411_next_0502b_51 : decode cJx35411_next_0502b 51 = .ok (.iload_n 1, 1) := by decide +kernel
theorem dJx35411_next_0502b_52 : decode cJx35411_next_0502b 52 = .ok (.iconst 1, 1) := by decide +kernel
theorem dJx35411_next_0502b_53 : decode cJx35411_next_0502b 53 = .ok (.iadd, 1) := by decide +kernel
theorem dJx35411_next_0502b_54 : decode cJx35411_next_0502b 54 = .ok (.putfield 25, 3) := by decide +kernel
theorem dJx35411_next_0502b_57 : decode cJx35411_next_0502b 57 = .ok (.aload_n 2, 1) := by decide +kernel
theorem dJx35411_next_0502b_58 : decode cJx35411_next_0502b 58 = .ok (.aload_n 0, 1) := by decide +kernel
theorem dJx35411_next_0502b_59 : decode cJx35411_next_0502b 59 = .ok (.iload_n 1, 1) := by decide +kernel
theorem dJx35411_next_0502b_60 : decode cJx35411_next_0502b 60 = .ok (.dup_x1, 1) := by decide +kernel
theorem dJx35411_next_0502b_61 : decode cJx35411_next_0502b 61 = .ok (.putfield 13, 3) := by decide +kernel
theorem dJx35411_next_0502b_64 : decode cJx35411_next_0502b 64 = .ok (.aaload, 1) := by decide +kernel
theorem dJx35411_next_0502b_65 : decode cJx35411_next_0502b 65 = .ok (.areturn, 1) := by decide +kernel
theorem dJx35411_checkForComodification_da8c8_0 : decode cJx35411_checkForComodification_da8c8 0 = .ok (.aload_n 0, 1) := by decide +kernel
theorem dJx35411_checkForComodification_da8c8_1 : decode cJx35411_checkForComodification_da8c8 1 = .ok (.getfield 1, 3) := by decide +kernel
theorem dJx35411_checkForComodification_da8c8_4 : decode cJx35411_checkForComodification_da8c8 4 = .ok (.getfield 17, 3) := by decide +kernel
theorem dJx35411_checkForComodification_da8c8_7 : decode cJx35411_checkForComodification_da8c8 7 = .ok (.aload_n 0, 1) := by decide +kernel
theorem dJx35411_checkForComodification_da8c8_8 : decode cJx35411_checkForComodification_da8c8 8 = .ok (.getfield 22, 3) := by decide +kernel
theorem dJx35411_checkForComodification_da8c8_11 : decode cJx35411_checkForComodification_da8c8 11 = .ok (.if_icmp .eq 11, 3) := by decide +kernel
theorem dJx35411_checkForComodification_da8c8_14 : decode cJx35411_checkForComodification_da8c8 14 = .ok (.new 41, 3) := by decide +kernel
theorem dJx35411_checkForComodification_da8c8_17 : decode cJx35411_checkForComodification_da8c8 17 = .ok (.dup, 1) := by decide +kernel
theorem dJx35411_checkForComodification_da8c8_18 : decode cJx35411_checkForComodification_da8c8 18 = .ok (.invokespecial 43, 3) := by decide +kernel
theorem dJx35411_checkForComodification_da8c8_21 : decode cJx35411_checkForComodification_da8c8 21 = .ok (.athrow, 1) := by decide +kernel
theorem dJx35411_checkForComodification_da8c8_22 : decode cJx35411_checkForComodification_da8c8 22 = .ok (.return_, 1) := by decide +kernel
theorem dJx4a65c_init_da8c8_0 : decode cJx4a65c_init_da8c8 0 = .ok (.aload_n 0, 1) := by decide +kernel
theorem dJx4a65c_init_da8c8_1 : decode cJx4a65c_init_da8c8 1 = .ok (.invokespecial 1, 3) := by decide +kernel
theorem dJx4a65c_init_da8c8_4 : decode cJx4a65c_init_da8c8 4 = .ok (.aload_n 0, 1) := by decide +kernel
theorem dJx4a65c_init_da8c8_5 : decode cJx4a65c_init_da8c8 5 = .ok (.getstatic 39, 3) := by decide +kernel
theorem dJx4a65c_init_da8c8_8 : decode cJx4a65c_init_da8c8 8 = .ok (.putfield 9, 3) := by decide +kernel
theorem dJx4a65c_init_da8c8_11 : decode cJx4a65c_init_da8c8 11 = .ok (.return_, 1) := by decide +kernel
theorem dJx4a65c_grow_92f84_0 : decode cJx4a65c_grow_92f84 0 = .ok (.aload_n 0, 1) := by decide +kernel
theorem dJx4a65c_grow_92f84_1 : decode cJx4a65c_grow_92f84 1 = .ok (.getfield 9, 3) := by decide +kernel
theorem dJx4a65c_grow_92f84_4 : decode cJx4a65c_grow_92f84 4 = .ok (.arraylength, 1) := by decide +kernel
theorem dJx4a65c_grow_92f84_5 : decode cJx4a65c_grow_92f84 5 = .ok (.istore_n 2, 1) := by decide +kernel
theorem dJx4a65c_grow_92f84_6 : decode cJx4a65c_grow_92f84 6 = .ok (.iload_n 2, 1) := by decide +kernel
theorem dJx4a65c_grow_92f84_7 : decode cJx4a65c_grow_92f84 7 = .ok (.ifCond .gt 13, 3) := by decide +kernel
theorem dJx4a65c_grow_92f84_10 : decode cJx4a65c_grow_92f84 10 = .ok (.aload_n 0, 1) := by decide +kernel
theorem dJx4a65c_grow_92f84_11 : decode cJx4a65c_grow_92f84 11 = .ok (.getfield 9, 3) := by decide +kernel
theorem dJx4a65c_grow_92f84_14 : decode cJx4a65c_grow_92f84 14 = .ok (.getstatic 39, 3) := by decide +kernel
theorem dJx4a65c_grow_92f84_17 : decode cJx4a65c_grow_92f84 17 = .ok (.if_acmp .eq 28, 3) := by decide +kernel
theorem dJx4a65c_grow_92f84_20 : decode cJx4a65c_grow_92f84 20 = .ok (.iload_n 2, 1) := by decide +kernel
theorem dJx4a65c_grow_92f84_21 : decode cJx4a65c_grow_92f84 21 = .ok (.iload_n 1, 1) := by decide +kernel
theorem dJx4a65c_grow_92f84_22 : decode cJx4a65c_grow_92f84 22 = .ok (.iload_n 2, 1) := by decide +kernel
theorem dJx4a65c_grow_92f84_23 : decode cJx4a65c_grow_92f84 23 = .ok (.isub, 1) := by decide +kernel
theorem dJx4a65c_grow_92f84_24 : decode cJx4a65c_grow_92f84 24 = .ok (.iload_n 2, 1) := by decide +kernel
theorem dJx4a65c_grow_92f84_25 : decode cJx4a65c_grow_92f84 25 = .ok (.iconst 1, 1) := by decide +kernel
theorem dJx4a65c_grow_92f84_26 : decode cJx4a65c_grow_92f84 26 = .ok (.ishr, 1) := by decide +kernel
theorem dJx4a65c_grow_92f84_27 : decode cJx4a65c_grow_92f84 27 = .ok (.invokestatic 73, 3) := by decide +kernel
theorem dJx4a65c_grow_92f84_30 : decode cJx4a65c_grow_92f84 30 = .ok (.istore_n 3, 1) := by decide +kernel
theorem dJx4a65c_grow_92f84_31 : decode cJx4a65c_grow_92f84 31 = .ok (.aload_n 0, 1) := by decide +kernel
theorem dJx4a65c_grow_92f84_32 : decode cJx4a65c_grow_92f84 32 = .ok (.aload_n 0, 1) := by decide +kernel
theorem dJx4a65c_grow_92f84_33 : decode cJx4a65c_grow_92f84 33 = .ok (.getfield 9, 3) := by decide +kernel
theorem dJx4a65c_grow_92f84_36 : decode cJx4a65c_grow_92f84 36 = .ok (.iload_n 3, 1) := by decide +kernel
theorem dJx4a65c_grow_92f84_37 : decode cJx4a65c_grow_92f84 37 = .ok (.invokestatic 66, 3) := by decide +kernel
theorem dJx4a65c_grow_92f84_40 : decode cJx4a65c_grow_92f84 40 = .ok (.dup_x1, 1) := by decide +kernel
theorem dJx4a65c_grow_92f84_41 : decode cJx4a65c_grow_92f84 41 = .ok (.putfield 9, 3) := by decide +kernel
theorem dJx4a65c_grow_92f84_44 : decode cJx4a65c_grow_92f84 44 = .ok (.areturn, 1) := by decide +kernel
theorem dJx4a65c_grow_92f84_45 : decode cJx4a65c_grow_92f84 45 = .ok (.aload_n 0, 1) := by decide +kernel
theorem dJx4a65c_grow_92f84_46 : decode cJx4a65c_grow_92f84 46 = .ok (.bipush 10, 2) := by decide +kernel
theorem dJx4a65c_grow_92f84_48 : decode cJx4a65c_grow_92f84 48 = .ok (.iload_n 1, 1) := by decide +kernel
theorem dJx4a65c_grow_92f84_49 : decode cJx4a65c_grow_92f84 49 = .ok (.invokestatic 79, 3) := by decide +kernel
theorem dJx4a65c_grow_92f84_52 : decode cJx4a65c_grow_92f84 52 = .ok (.anewarray 7, 3) := by decide +kernel
theorem dJx4a65c_grow_92f84_55 : decode cJx4a65c_grow_92f84 55 = .ok (.dup_x1, 1) := by decide +kernel
theorem dJx4a65c_grow_92f84_56 : decode cJx4a65c_grow_92f84 56 = .ok (.putfield 9, 3) := by decide +kernel
theorem dJx4a65c_grow_92f84_59 : decode cJx4a65c_grow_92f84 59 = .ok (.areturn, 1) := by decide +kernel
theorem dJx4a65c_grow_d5877_0 : decode cJx4a65c_grow_d5877 0 = .ok (.aload_n 0, 1) := by decide +kernel
theorem dJx4a65c_grow_d5877_1 : decode cJx4a65c_grow_d5877 1 = .ok (.aload_n 0, 1) := by decide +kernel
theorem dJx4a65c_grow_d5877_2 : decode cJx4a65c_grow_d5877 2 = .ok (.getfield 48, 3) := by decide +kernel
theorem dJx4a65c_grow_d5877_5 : decode cJx4a65c_grow_d5877 5 = .ok (.iconst 1, 1) := by decide +kernel
theorem dJx4a65c_grow_d5877_6 : decode cJx4a65c_grow_d5877 6 = .ok (.iadd, 1) := by decide +kernel
theorem dJx4a65c_grow_d5877_7 : decode cJx4a65c_grow_d5877 7 = .ok (.invokevirtual 69, 3) := by decide +kernel
theorem dJx4a65c_grow_d5877_10 : decode cJx4a65c_grow_d5877 10 = .ok (.areturn, 1) := by decide +kernel
theorem dJx4a65c_size_8abf5_0 : decode cJx4a65c_size_8abf5 0 = .ok (.aload_n 0, 1) := by decide +kernel
theorem dJx4a65c_size_8abf5_1 : decode cJx4a65c_size_8abf5 1 = .ok (.getfield 48, 3) := by decide +kernel
theorem dJx4a65c_size_8abf5_4 : decode cJx4a65c_size_8abf5 4 = .ok (.ireturn, 1) := by decide +kernel
theorem dJx4a65c_elementData_915e3_0 : decode cJx4a65c_elementData_915e3 0 = .ok (.aload_n 0, 1) := by decide +kernel
theorem dJx4a65c_elementData_915e3_1 : decode cJx4a65c_elementData_915e3 1 = .ok (.getfield 9, 3) := by decide +kernel
theorem dJx4a65c_elementData_915e3_4 : decode cJx4a65c_elementData_915e3 4 = .ok (.iload_n 1, 1) := by decide +kernel
theorem dJx4a65c_elementData_915e3_5 : decode cJx4a65c_elementData_915e3 5 = .ok (.aaload, 1) := by decide +kernel
theorem dJx4a65c_elementData_915e3_6 : decode cJx4a65c_elementData_915e3 6 = .ok (.areturn, 1) := by decide +kernel
theorem dJx4a65c_get_915e3_0 : decode cJx4a65c_get_915e3 0 = .ok (.iload_n 1, 1) := by decide +kernel
theorem dJx4a65c_get_915e3_1 : decode cJx4a65c_get_915e3 1 = .ok (.aload_n 0, 1) := by decide +kernel
theorem dJx4a65c_get_915e3_2 : decode cJx4a65c_get_915e3 2 = .ok (.getfield 48, 3) := by decide +kernel
theorem dJx4a65c_get_915e3_5 : decode cJx4a65c_get_915e3 5 = .ok (.invokestatic 118, 3) := by decide +kernel
theorem dJx4a65c_get_915e3_8 : decode cJx4a65c_get_915e3 8 = .ok (.pop, 1) := by decide +kernel
theorem dJx4a65c_get_915e3_9 : decode cJx4a65c_get_915e3 9 = .ok (.aload_n 0, 1) := by decide +kernel
theorem dJx4a65c_get_915e3_10 : decode cJx4a65c_get_915e3 10 = .ok (.iload_n 1, 1) := by decide +kernel
theorem dJx4a65c_get_915e3_11 : decode cJx4a65c_get_915e3 11 = .ok (.invokevirtual 123, 3) := by decide +kernel
theorem dJx4a65c_get_915e3_14 : decode cJx4a65c_get_915e3 14 = .ok (.areturn, 1) := by decide +kernel
theorem dJx4a65c_add_72be8_0 : decode cJx4a65c_add_72be8 0 = .ok (.iload_n 3, 1) := by decide +kernel
theorem dJx4a65c_add_72be8_1 : decode cJx4a65c_add_72be8 1 = .ok (.aload_n 2, 1) := by decide +kernel
theorem dJx4a65c_add_72be8_2 : decode cJx4a65c_add_72be8 2 = .ok (.arraylength, 1) := by decide +kernel
theorem dJx4a65c_add_72be8_3 : decode cJx4a65c_add_72be8 3 = .ok (.if_icmp .ne 8, 3) := by decide +kernel
theorem dJx4a65c_add_72be8_6 : decode cJx4a65c_add_72be8 6 = .ok (.aload_n 0, 1) := by decide +kernel
theorem dJx4a65c_add_72be8_7 : decode cJx4a65c_add_72be8 7 = .ok (.invokevirtual 129, 3) := by decide +kernel
theorem dJx4a65c_add_72be8_10 : decode cJx4a65c_add_72be8 10 = .ok (.astore_n 2, 1) := by decide +kernel
theorem dJx4a65c_add_72be8_11 : decode cJx4a65c_add_72be8 11 = .ok (.aload_n 2, 1) := by decide +kernel
theorem dJx4a65c_add_72be8_12 : decode cJx4a65c_add_72be8 12 = .ok (.iload_n 3, 1) := by decide +kernel
theorem dJx4a65c_add_72be8_13 : decode cJx4a65c_add_72be8 13 = .ok (.aload_n 1, 1) := by decide +kernel
theorem dJx4a65c_add_72be8_14 : decode cJx4a65c_add_72be8 14 = .ok (.aastore, 1) := by decide +kernel
theorem dJx4a65c_add_72be8_15 : decode cJx4a65c_add_72be8 15 = .ok (.aload_n 0, 1) := by decide +kernel
theorem dJx4a65c_add_72be8_16 : decode cJx4a65c_add_72be8 16 = .ok (.iload_n 3, 1) := by decide +kernel
theorem dJx4a65c_add_72be8_17 : decode cJx4a65c_add_72be8 17 = .ok (.iconst 1, 1) := by decide +kernel
theorem dJx4a65c_add_72be8_18 : decode cJx4a65c_add_72be8 18 = .ok (.iadd, 1) := by decide +kernel
theorem dJx4a65c_add_72be8_19 : decode cJx4a65c_add_72be8 19 = .ok (.putfield 48, 3) := by decide +kernel
theorem dJx4a65c_add_72be8_22 : decode cJx4a65c_add_72be8 22 = .ok (.return_, 1) := by decide +kernel
theorem dJx4a65c_add_9ea2d_0 : decode cJx4a65c_add_9ea2d 0 = .ok (.aload_n 0, 1) := by decide +kernel
theorem dJx4a65c_add_9ea2d_1 : decode cJx4a65c_add_9ea2d 1 = .ok (.dup, 1) := by decide +kernel
theorem dJx4a65c_add_9ea2d_2 : decode cJx4a65c_add_9ea2d 2 = .ok (.getfield 63, 3) := by decide +kernel
theorem dJx4a65c_add_9ea2d_5 : decode cJx4a65c_add_9ea2d 5 = .ok (.iconst 1, 1) := by decide +kernel
theorem dJx4a65c_add_9ea2d_6 : decode cJx4a65c_add_9ea2d 6 = .ok (.iadd, 1) := by decide +kernel
theorem dJx4a65c_add_9ea2d_7 : decode cJx4a65c_add_9ea2d 7 = .ok (.putfield 63, 3) := by decide +kernel
theorem dJx4a65c_add_9ea2d_10 : decode cJx4a65c_add_9ea2d 10 = .ok (.aload_n 0, 1) := by decide +kernel
theorem dJx4a65c_add_9ea2d_11 : decode cJx4a65c_add_9ea2d 11 = .ok (.aload_n 1, 1) := by decide +kernel
theorem dJx4a65c_add_9ea2d_12 : decode cJx4a65c_add_9ea2d 12 = .ok (.aload_n 0, 1) := by decide +kernel
theorem dJx4a65c_add_9ea2d_13 : decode cJx4a65c_add_9ea2d 13 = .ok (.getfield 9, 3) := by decide +kernel
theorem dJx4a65c_add_9ea2d_16 : decode cJx4a65c_add_9ea2d 16 = .ok (.aload_n 0, 1) := by decide +kernel
theorem dJx4a65c_add_9ea2d_17 : decode cJx4a65c_add_9ea2d 17 = .ok (.getfield 48, 3) := by decide +kernel
theorem dJx4a65c_add_9ea2d_20 : decode cJx4a65c_add_9ea2d 20 = .ok (.invokevirtual 131, 3) := by decide +kernel
theorem dJx4a65c_add_9ea2d_23 : decode cJx4a65c_add_9ea2d 23 = .ok (.iconst 1, 1) := by decide +kernel
theorem dJx4a65c_add_9ea2d_24 : decode cJx4a65c_add_9ea2d 24 = .ok (.ireturn, 1) := by decide +kernel
theorem dJx4a65c_iterator_32c93_0 : decode cJx4a65c_iterator_32c93 0 = .ok (.new 267, 3) := by decide +kernel
theorem dJx4a65c_iterator_32c93_3 : decode cJx4a65c_iterator_32c93 3 = .ok (.dup, 1) := by decide +kernel
theorem dJx4a65c_iterator_32c93_4 : decode cJx4a65c_iterator_32c93 4 = .ok (.aload_n 0, 1) := by decide +kernel
theorem dJx4a65c_iterator_32c93_5 : decode cJx4a65c_iterator_32c93 5 = .ok (.invokespecial 269, 3) := by decide +kernel
theorem dJx4a65c_iterator_32c93_8 : decode cJx4a65c_iterator_32c93 8 = .ok (.areturn, 1) := by decide +kernel
theorem dJ7_copyOf_1904c_0 : decode cJ7_copyOf_1904c 0 = .ok (.aload_n 0, 1) := by decide +kernel
theorem dJ7_copyOf_1904c_1 : decode cJ7_copyOf_1904c 1 = .ok (.iload_n 1, 1) := by decide +kernel
theorem dJ7_copyOf_1904c_2 : decode cJ7_copyOf_1904c 2 = .ok (.aload_n 0, 1) := by decide +kernel
theorem dJ7_copyOf_1904c_3 : decode cJ7_copyOf_1904c 3 = .ok (.invokevirtual 86, 3) := by decide +kernel
theorem dJ7_copyOf_1904c_6 : decode cJ7_copyOf_1904c 6 = .ok (.invokestatic 300, 3) := by decide +kernel
theorem dJ7_copyOf_1904c_9 : decode cJ7_copyOf_1904c 9 = .ok (.areturn, 1) := by decide +kernel
theorem dJ7_copyOf_6403c_0 : decode cJ7_copyOf_6403c 0 = .ok (.aload_n 2, 1) := by decide +kernel
theorem dJ7_copyOf_6403c_1 : decode cJ7_copyOf_6403c 1 = .ok (.ldc 110, 2) := by decide +kernel
theorem dJ7_copyOf_6403c_3 : decode cJ7_copyOf_6403c 3 = .ok (.if_acmp .ne 10, 3) := by decide +kernel
theorem dJ7_copyOf_6403c_6 : decode cJ7_copyOf_6403c 6 = .ok (.iload_n 1, 1) := by decide +kernel
theorem dJ7_copyOf_6403c_7 : decode cJ7_copyOf_6403c 7 = .ok (.anewarray 2, 3) := by decide +kernel
theorem dJ7_copyOf_6403c_10 : decode cJ7_copyOf_6403c 10 = .ok (.goto 14, 3) := by decide +kernel
theorem dJ7_copyOf_6403c_13 : decode cJ7_copyOf_6403c 13 = .ok (.aload_n 2, 1) := by decide +kernel
theorem dJ7_copyOf_6403c_14 : decode cJ7_copyOf_6403c 14 = .ok (.invokevirtual 90, 3) := by decide +kernel
theorem dJ7_copyOf_6403c_17 : decode cJ7_copyOf_6403c 17 = .ok (.iload_n 1, 1) := by decide +kernel
theorem dJ7_copyOf_6403c_18 : decode cJ7_copyOf_6403c 18 = .ok (.invokestatic 95, 3) := by decide +kernel
theorem dJ7_copyOf_6403c_21 : decode cJ7_copyOf_6403c 21 = .ok (.checkcast 110, 3) := by decide +kernel
theorem dJ7_copyOf_6403c_24 : decode cJ7_copyOf_6403c 24 = .ok (.astore_n 3, 1) := by decide +kernel
theorem dJ7_copyOf_6403c_25 : decode cJ7_copyOf_6403c 25 = .ok (.aload_n 0, 1) := by decide +kernel
theorem dJ7_copyOf_6403c_26 : decode cJ7_copyOf_6403c 26 = .ok (.iconst 0, 1) := by decide +kernel
theorem dJ7_copyOf_6403c_27 : decode cJ7_copyOf_6403c 27 = .ok (.aload_n 3, 1) := by decide +kernel
theorem dJ7_copyOf_6403c_28 : decode cJ7_copyOf_6403c 28 = .ok (.iconst 0, 1) := by decide +kernel
theorem dJ7_copyOf_6403c_29 : decode cJ7_copyOf_6403c 29 = .ok (.aload_n 0, 1) := by decide +kernel
theorem dJ7_copyOf_6403c_30 : decode cJ7_copyOf_6403c 30 = .ok (.arraylength, 1) := by decide +kernel
theorem dJ7_copyOf_6403c_31 : decode cJ7_copyOf_6403c 31 = .ok (.iload_n 1, 1) := by decide +kernel
theorem dJ7_copyOf_6403c_32 : decode cJ7_copyOf_6403c 32 = .ok (.invokestatic 304, 3) := by decide +kernel
theorem dJ7_copyOf_6403c_35 : decode cJ7_copyOf_6403c 35 = .ok (.invokestatic 150, 3) := by decide +kernel
theorem dJ7_copyOf_6403c_38 : decode cJ7_copyOf_6403c 38 = .ok (.aload_n 3, 1) := by decide +kernel
theorem dJ7_copyOf_6403c_39 : decode cJ7_copyOf_6403c 39 = .ok (.areturn, 1) := by decide +kernel
theorem dJ15_checkIndex_7cf53_0 : decode cJ15_checkIndex_7cf53 0 = .ok (.iload_n 0, 1) := by decide +kernel
theorem dJ15_checkIndex_7cf53_1 : decode cJ15_checkIndex_7cf53 1 = .ok (.iload_n 1, 1) := by decide +kernel
theorem dJ15_checkIndex_7cf53_2 : decode cJ15_checkIndex_7cf53 2 = .ok (.aconst_null, 1) := by decide +kernel
theorem dJ15_checkIndex_7cf53_3 : decode cJ15_checkIndex_7cf53 3 = .ok (.invokestatic 105, 3) := by decide +kernel
theorem dJ15_checkIndex_7cf53_6 : decode cJ15_checkIndex_7cf53 6 = .ok (.ireturn, 1) := by decide +kernel
theorem dJ8_newLength_cabcc_0 : decode cJ8_newLength_cabcc 0 = .ok (.iload_n 0, 1) := by decide +kernel
theorem dJ8_newLength_cabcc_1 : decode cJ8_newLength_cabcc 1 = .ok (.iload_n 1, 1) := by decide +kernel
theorem dJ8_newLength_cabcc_2 : decode cJ8_newLength_cabcc 2 = .ok (.iload_n 2, 1) := by decide +kernel
theorem dJ8_newLength_cabcc_3 : decode cJ8_newLength_cabcc 3 = .ok (.invokestatic 194, 3) := by decide +kernel
theorem dJ8_newLength_cabcc_6 : decode cJ8_newLength_cabcc 6 = .ok (.iadd, 1) := by decide +kernel
theorem dJ8_newLength_cabcc_7 : decode cJ8_newLength_cabcc 7 = .ok (.istore_n 3, 1) := by decide +kernel
theorem dJ8_newLength_cabcc_8 : decode cJ8_newLength_cabcc 8 = .ok (.iconst 0, 1) := by decide +kernel
theorem dJ8_newLength_cabcc_9 : decode cJ8_newLength_cabcc 9 = .ok (.iload_n 3, 1) := by decide +kernel
theorem dJ8_newLength_cabcc_10 : decode cJ8_newLength_cabcc 10 = .ok (.if_icmp .ge 11, 3) := by decide +kernel
theorem dJ8_newLength_cabcc_13 : decode cJ8_newLength_cabcc 13 = .ok (.iload_n 3, 1) := by decide +kernel
theorem dJ8_newLength_cabcc_14 : decode cJ8_newLength_cabcc 14 = .ok (.ldc 200, 2) := by decide +kernel
theorem dJ8_newLength_cabcc_16 : decode cJ8_newLength_cabcc 16 = .ok (.if_icmp .gt 5, 3) := by decide +kernel
theorem dJ8_newLength_cabcc_19 : decode cJ8_newLength_cabcc 19 = .ok (.iload_n 3, 1) := by decide +kernel
theorem dJ8_newLength_cabcc_20 : decode cJ8_newLength_cabcc 20 = .ok (.ireturn, 1) := by decide +kernel
theorem dJ8_newLength_cabcc_21 : decode cJ8_newLength_cabcc 21 = .ok (.iload_n 0, 1) := by decide +kernel
theorem dJ8_newLength_cabcc_22 : decode cJ8_newLength_cabcc 22 = .ok (.iload_n 1, 1) := by decide +kernel
theorem dJ8_newLength_cabcc_23 : decode cJ8_newLength_cabcc 23 = .ok (.invokestatic 201, 3) := by decide +kernel
theorem dJ8_newLength_cabcc_26 : decode cJ8_newLength_cabcc 26 = .ok (.ireturn, 1) := by decide +kernel
theorem dJ8_hugeLength_7cf53_0 : decode cJ8_hugeLength_7cf53 0 = .ok (.iload_n 0, 1) := by decide +kernel
theorem dJ8_hugeLength_7cf53_1 : decode cJ8_hugeLength_7cf53 1 = .ok (.iload_n 1, 1) := by decide +kernel
theorem dJ8_hugeLength_7cf53_2 : decode cJ8_hugeLength_7cf53 2 = .ok (.iadd, 1) := by decide +kernel
theorem dJ8_hugeLength_7cf53_3 : decode cJ8_hugeLength_7cf53 3 = .ok (.istore_n 2, 1) := by decide +kernel
theorem dJ8_hugeLength_7cf53_4 : decode cJ8_hugeLength_7cf53 4 = .ok (.iload_n 2, 1) := by decide +kernel
theorem dJ8_hugeLength_7cf53_5 : decode cJ8_hugeLength_7cf53 5 = .ok (.ifCond .ge 44, 3) := by decide +kernel
theorem dJ8_hugeLength_7cf53_8 : decode cJ8_hugeLength_7cf53 8 = .ok (.new 204, 3) := by decide +kernel
theorem dJ8_hugeLength_7cf53_11 : decode cJ8_hugeLength_7cf53 11 = .ok (.dup, 1) := by decide +kernel
theorem dJ8_hugeLength_7cf53_12 : decode cJ8_hugeLength_7cf53 12 = .ok (.new 89, 3) := by decide +kernel
theorem dJ8_hugeLength_7cf53_15 : decode cJ8_hugeLength_7cf53 15 = .ok (.dup, 1) := by decide +kernel
theorem dJ8_hugeLength_7cf53_16 : decode cJ8_hugeLength_7cf53 16 = .ok (.invokespecial 91, 3) := by decide +kernel
theorem dJ8_hugeLength_7cf53_19 : decode cJ8_hugeLength_7cf53 19 = .ok (.ldc 206, 2) := by decide +kernel
theorem dJ8_hugeLength_7cf53_21 : decode cJ8_hugeLength_7cf53 21 = .ok (.invokevirtual 94, 3) := by decide +kernel
theorem dJ8_hugeLength_7cf53_24 : decode cJ8_hugeLength_7cf53 24 = .ok (.iload_n 0, 1) := by decide +kernel
theorem dJ8_hugeLength_7cf53_25 : decode cJ8_hugeLength_7cf53 25 = .ok (.invokevirtual 98, 3) := by decide +kernel
theorem dJ8_hugeLength_7cf53_28 : decode cJ8_hugeLength_7cf53 28 = .ok (.ldc 208, 2) := by decide +kernel
theorem dJ8_hugeLength_7cf53_30 : decode cJ8_hugeLength_7cf53 30 = .ok (.invokevirtual 94, 3) := by decide +kernel
theorem dJ8_hugeLength_7cf53_33 : decode cJ8_hugeLength_7cf53 33 = .ok (.iload_n 1, 1) := by decide +kernel
theorem dJ8_hugeLength_7cf53_34 : decode cJ8_hugeLength_7cf53 34 = .ok (.invokevirtual 98, 3) := by decide +kernel
theorem dJ8_hugeLength_7cf53_37 : decode cJ8_hugeLength_7cf53 37 = .ok (.ldc 210, 2) := by decide +kernel
theorem dJ8_hugeLength_7cf53_39 : decode cJ8_hugeLength_7cf53 39 = .ok (.invokevirtual 94, 3) := by decide +kernel
theorem dJ8_hugeLength_7cf53_42 : decode cJ8_hugeLength_7cf53 42 = .ok (.invokevirtual 101, 3) := by decide +kernel
theorem dJ8_hugeLength_7cf53_45 : decode cJ8_hugeLength_7cf53 45 = .ok (.invokespecial 212, 3) := by decide +kernel
theorem dJ8_hugeLength_7cf53_48 : decode cJ8_hugeLength_7cf53 48 = .ok (.athrow, 1) := by decide +kernel
theorem dJ8_hugeLength_7cf53_49 : decode cJ8_hugeLength_7cf53 49 = .ok (.iload_n 2, 1) := by decide +kernel
theorem dJ8_hugeLength_7cf53_50 : decode cJ8_hugeLength_7cf53 50 = .ok (.ldc 200, 2) := by decide +kernel
theorem dJ8_hugeLength_7cf53_52 : decode cJ8_hugeLength_7cf53 52 = .ok (.if_icmp .gt 6, 3) := by decide +kernel
theorem dJ8_hugeLength_7cf53_55 : decode cJ8_hugeLength_7cf53 55 = .ok (.ldc 200, 2) := by decide +kernel
theorem dJ8_hugeLength_7cf53_57 : decode cJ8_hugeLength_7cf53 57 = .ok (.ireturn, 1) := by decide +kernel
theorem dJ8_hugeLength_7cf53_58 : decode cJ8_hugeLength_7cf53 58 = .ok (.iload_n 2, 1) := by decide +kernel
theorem dJ8_hugeLength_7cf53_59 : decode cJ8_hugeLength_7cf53 59 = .ok (.ireturn, 1) := by decide +kernel
theorem dJ3_checkIndex_8e157_0 : decode cJ3_checkIndex_8e157 0 = .ok (.iload_n 0, 1) := by decide +kernel
theorem dJ3_checkIndex_8e157_1 : decode cJ3_checkIndex_8e157 1 = .ok (.ifCond .lt 8, 3) := by decide +kernel
theorem dJ3_checkIndex_8e157_4 : decode cJ3_checkIndex_8e157 4 = .ok (.iload_n 0, 1) := by decide +kernel
theorem dJ3_checkIndex_8e157_5 : decode cJ3_checkIndex_8e157 5 = .ok (.iload_n 1, 1) := by decide +kernel
theorem dJ3_checkIndex_8e157_6 : decode cJ3_checkIndex_8e157 6 = .ok (.if_icmp .lt 10, 3) := by decide +kernel
theorem dJ3_checkIndex_8e157_9 : decode cJ3_checkIndex_8e157 9 = .ok (.aload_n 2, 1) := by decide +kernel
theorem dJ3_checkIndex_8e157_10 : decode cJ3_checkIndex_8e157 10 = .ok (.iload_n 0, 1) := by decide +kernel
theorem dJ3_checkIndex_8e157_11 : decode cJ3_checkIndex_8e157 11 = .ok (.iload_n 1, 1) := by decide +kernel
theorem dJ3_checkIndex_8e157_12 : decode cJ3_checkIndex_8e157 12 = .ok (.invokestatic 95, 3) := by decide +kernel
theorem dJ3_checkIndex_8e157_15 : decode cJ3_checkIndex_8e157 15 = .ok (.athrow, 1) := by decide +kernel
theorem dJ3_checkIndex_8e157_16 : decode cJ3_checkIndex_8e157 16 = .ok (.iload_n 0, 1) := by decide +kernel
theorem dJ3_checkIndex_8e157_17 : decode cJ3_checkIndex_8e157 17 = .ok (.ireturn, 1) := by decide +kernel
theorem dL_curve_0 : decode cL_curve 0 = .ok (.aload_n 3, 1) := by decide +kernel
theorem dL_curve_1 : decode cL_curve 1 = .ok (.iconst 0, 1) := by decide +kernel
theorem dL_curve_2 : decode cL_curve 2 = .ok (.aload_n 0, 1) := by decide +kernel
theorem dL_curve_3 : decode cL_curve 3 = .ok (.iload_n 1, 1) := by decide +kernel
theorem dL_curve_4 : decode cL_curve 4 = .ok (.iload_n 2, 1) := by decide +kernel
theorem dL_curve_5 : decode cL_curve 5 = .ok (.invokevirtual 7, 3) := by decide +kernel
theorem dL_curve_8 : decode cL_curve 8 = .ok (.ifCond .eq 7, 3) := by decide +kernel
theorem dL_curve_11 : decode cL_curve 11 = .ok (.lconst 1, 1) := by decide +kernel
theorem dL_curve_12 : decode cL_curve 12 = .ok (.goto 4, 3) := by decide +kernel
theorem dL_curve_15 : decode cL_curve 15 = .ok (.lconst 0, 1) := by decide +kernel
theorem dL_curve_16 : decode cL_curve 16 = .ok (.lastore, 1) := by decide +kernel
theorem dL_curve_17 : decode cL_curve 17 = .ok (.goto 7, 3) := by decide +kernel
theorem dL_curve_20 : decode cL_curve 20 = .ok (.astore 4, 2) := by decide +kernel
theorem dL_curve_22 : decode cL_curve 22 = .ok (.iconst 1, 1) := by decide +kernel
theorem dL_curve_23 : decode cL_curve 23 = .ok (.ireturn, 1) := by decide +kernel
theorem dL_curve_24 : decode cL_curve 24 = .ok (.iconst 0, 1) := by decide +kernel
theorem dL_curve_25 : decode cL_curve 25 = .ok (.ireturn, 1) := by decide +kernel
theorem dL_sign_0 : decode cL_sign 0 = .ok (.aload_n 3, 1) := by decide +kernel
theorem dL_sign_1 : decode cL_sign 1 = .ok (.iconst 0, 1) := by decide +kernel
theorem dL_sign_2 : decode cL_sign 2 = .ok (.aload_n 0, 1) := by decide +kernel
theorem dL_sign_3 : decode cL_sign 3 = .ok (.iload_n 1, 1) := by decide +kernel
theorem dL_sign_4 : decode cL_sign 4 = .ok (.iload_n 2, 1) := by decide +kernel
theorem dL_sign_5 : decode cL_sign 5 = .ok (.invokevirtual 15, 3) := by decide +kernel
theorem dL_sign_8 : decode cL_sign 8 = .ok (.i2l, 1) := by decide +kernel
theorem dL_sign_9 : decode cL_sign 9 = .ok (.lastore, 1) := by decide +kernel
theorem dL_sign_10 : decode cL_sign 10 = .ok (.goto 11, 3) := by decide +kernel
theorem dL_sign_13 : decode cL_sign 13 = .ok (.astore 4, 2) := by decide +kernel
theorem dL_sign_15 : decode cL_sign 15 = .ok (.iconst 1, 1) := by decide +kernel
theorem dL_sign_16 : decode cL_sign 16 = .ok (.ireturn, 1) := by decide +kernel
theorem dL_sign_17 : decode cL_sign 17 = .ok (.astore 4, 2) := by decide +kernel
theorem dL_sign_19 : decode cL_sign 19 = .ok (.iconst 2, 1) := by decide +kernel
theorem dL_sign_20 : decode cL_sign 20 = .ok (.ireturn, 1) := by decide +kernel
theorem dL_sign_21 : decode cL_sign 21 = .ok (.iconst 0, 1) := by decide +kernel
theorem dL_sign_22 : decode cL_sign 22 = .ok (.ireturn, 1) := by decide +kernel
theorem dL_pass_0 : decode cL_pass 0 = .ok (.aload 4, 2) := by decide +kernel
theorem dL_pass_2 : decode cL_pass 2 = .ok (.iconst 0, 1) := by decide +kernel
theorem dL_pass_3 : decode cL_pass 3 = .ok (.aload_n 0, 1) := by decide +kernel
theorem dL_pass_4 : decode cL_pass 4 = .ok (.iload_n 1, 1) := by decide +kernel
theorem dL_pass_5 : decode cL_pass 5 = .ok (.iload_n 2, 1) := by decide +kernel
theorem dL_pass_6 : decode cL_pass 6 = .ok (.iload_n 3, 1) := by decide +kernel
theorem dL_pass_7 : decode cL_pass 7 = .ok (.invokevirtual 21, 3) := by decide +kernel
theorem dL_pass_10 : decode cL_pass 10 = .ok (.i2l, 1) := by decide +kernel
theorem dL_pass_11 : decode cL_pass 11 = .ok (.lastore, 1) := by decide +kernel
theorem dL_pass_12 : decode cL_pass 12 = .ok (.goto 11, 3) := by decide +kernel
theorem dL_pass_15 : decode cL_pass 15 = .ok (.astore 5, 2) := by decide +kernel
theorem dL_pass_17 : decode cL_pass 17 = .ok (.iconst 1, 1) := by decide +kernel
theorem dL_pass_18 : decode cL_pass 18 = .ok (.ireturn, 1) := by decide +kernel
theorem dL_pass_19 : decode cL_pass 19 = .ok (.astore 5, 2) := by decide +kernel
theorem dL_pass_21 : decode cL_pass 21 = .ok (.iconst 2, 1) := by decide +kernel
theorem dL_pass_22 : decode cL_pass 22 = .ok (.ireturn, 1) := by decide +kernel
theorem dL_pass_23 : decode cL_pass 23 = .ok (.iconst 0, 1) := by decide +kernel
theorem dL_pass_24 : decode cL_pass 24 = .ok (.ireturn, 1) := by decide +kernel
theorem dL_measure_0 : decode cL_measure 0 = .ok (.aload 5, 2) := by decide +kernel
theorem dL_measure_2 : decode cL_measure 2 = .ok (.iconst 0, 1) := by decide +kernel
theorem dL_measure_3 : decode cL_measure 3 = .ok (.aload_n 0, 1) := by decide +kernel
theorem dL_measure_4 : decode cL_measure 4 = .ok (.iload_n 1, 1) := by decide +kernel
theorem dL_measure_5 : decode cL_measure 5 = .ok (.iload_n 2, 1) := by decide +kernel
theorem dL_measure_6 : decode cL_measure 6 = .ok (.iload_n 3, 1) := by decide +kernel
theorem dL_measure_7 : decode cL_measure 7 = .ok (.iload 4, 2) := by decide +kernel
theorem dL_measure_9 : decode cL_measure 9 = .ok (.invokevirtual 27, 3) := by decide +kernel
theorem dL_measure_12 : decode cL_measure 12 = .ok (.i2l, 1) := by decide +kernel
theorem dL_measure_13 : decode cL_measure 13 = .ok (.lastore, 1) := by decide +kernel
theorem dL_measure_14 : decode cL_measure 14 = .ok (.goto 15, 3) := by decide +kernel
theorem dL_measure_17 : decode cL_measure 17 = .ok (.astore 6, 2) := by decide +kernel
theorem dL_measure_19 : decode cL_measure 19 = .ok (.iconst 1, 1) := by decide +kernel
theorem dL_measure_20 : decode cL_measure 20 = .ok (.ireturn, 1) := by decide +kernel
theorem dL_measure_21 : decode cL_measure 21 = .ok (.astore 6, 2) := by decide +kernel
theorem dL_measure_23 : decode cL_measure 23 = .ok (.iconst 2, 1) := by decide +kernel
theorem dL_measure_24 : decode cL_measure 24 = .ok (.ireturn, 1) := by decide +kernel
theorem dL_measure_25 : decode cL_measure 25 = .ok (.astore 6, 2) := by decide +kernel
theorem dL_measure_27 : decode cL_measure 27 = .ok (.iconst 3, 1) := by decide +kernel
theorem dL_measure_28 : decode cL_measure 28 = .ok (.ireturn, 1) := by decide +kernel
theorem dL_measure_29 : decode cL_measure 29 = .ok (.iconst 0, 1) := by decide +kernel
theorem dL_measure_30 : decode cL_measure 30 = .ok (.ireturn, 1) := by decide +kernel
theorem dL_align_0 : decode cL_align 0 = .ok (.aload_n 2, 1) := by decide +kernel
theorem dL_align_1 : decode cL_align 1 = .ok (.iconst 0, 1) := by decide +kernel
theorem dL_align_2 : decode cL_align 2 = .ok (.aload_n 0, 1) := by decide +kernel
theorem dL_align_3 : decode cL_align 3 = .ok (.iload_n 1, 1) := by decide +kernel
theorem dL_align_4 : decode cL_align 4 = .ok (.invokevirtual 31, 3) := by decide +kernel
theorem dL_align_7 : decode cL_align 7 = .ok (.i2l, 1) := by decide +kernel
theorem dL_align_8 : decode cL_align 8 = .ok (.lastore, 1) := by decide +kernel
theorem dL_align_9 : decode cL_align 9 = .ok (.goto 9, 3) := by decide +kernel
theorem dL_align_12 : decode cL_align 12 = .ok (.astore_n 3, 1) := by decide +kernel
theorem dL_align_13 : decode cL_align 13 = .ok (.iconst 1, 1) := by decide +kernel
theorem dL_align_14 : decode cL_align 14 = .ok (.ireturn, 1) := by decide +kernel
theorem dL_align_15 : decode cL_align 15 = .ok (.astore_n 3, 1) := by decide +kernel
theorem dL_align_16 : decode cL_align 16 = .ok (.iconst 2, 1) := by decide +kernel
theorem dL_align_17 : decode cL_align 17 = .ok (.ireturn, 1) := by decide +kernel
theorem dL_align_18 : decode cL_align 18 = .ok (.iconst 0, 1) := by decide +kernel
theorem dL_align_19 : decode cL_align 19 = .ok (.ireturn, 1) := by decide +kernel
theorem dL_machine_0 : decode cL_machine 0 = .ok (.aload_n 3, 1) := by decide +kernel
theorem dL_machine_1 : decode cL_machine 1 = .ok (.iconst 0, 1) := by decide +kernel
theorem dL_machine_2 : decode cL_machine 2 = .ok (.aload_n 0, 1) := by decide +kernel
theorem dL_machine_3 : decode cL_machine 3 = .ok (.iload_n 1, 1) := by decide +kernel
theorem dL_machine_4 : decode cL_machine 4 = .ok (.iload_n 2, 1) := by decide +kernel
theorem dL_machine_5 : decode cL_machine 5 = .ok (.invokevirtual 35, 3) := by decide +kernel
theorem dL_machine_8 : decode cL_machine 8 = .ok (.i2l, 1) := by decide +kernel
theorem dL_machine_9 : decode cL_machine 9 = .ok (.lastore, 1) := by decide +kernel
theorem dL_machine_10 : decode cL_machine 10 = .ok (.goto 11, 3) := by decide +kernel
theorem dL_machine_13 : decode cL_machine 13 = .ok (.astore 4, 2) := by decide +kernel
theorem dL_machine_15 : decode cL_machine 15 = .ok (.iconst 1, 1) := by decide +kernel
theorem dL_machine_16 : decode cL_machine 16 = .ok (.ireturn, 1) := by decide +kernel
theorem dL_machine_17 : decode cL_machine 17 = .ok (.astore 4, 2) := by decide +kernel
theorem dL_machine_19 : decode cL_machine 19 = .ok (.iconst 2, 1) := by decide +kernel
theorem dL_machine_20 : decode cL_machine 20 = .ok (.ireturn, 1) := by decide +kernel
theorem dL_machine_21 : decode cL_machine 21 = .ok (.iconst 0, 1) := by decide +kernel
theorem dL_machine_22 : decode cL_machine 22 = .ok (.ireturn, 1) := by decide +kernel
theorem dL_service_0 : decode cL_service 0 = .ok (.aload_n 2, 1) := by decide +kernel
theorem dL_service_1 : decode cL_service 1 = .ok (.iconst 0, 1) := by decide +kernel
theorem dL_service_2 : decode cL_service 2 = .ok (.aload_n 0, 1) := by decide +kernel
theorem dL_service_3 : decode cL_service 3 = .ok (.iload_n 1, 1) := by decide +kernel
theorem dL_service_4 : decode cL_service 4 = .ok (.invokevirtual 38, 3) := by decide +kernel
theorem dL_service_7 : decode cL_service 7 = .ok (.i2l, 1) := by decide +kernel
theorem dL_service_8 : decode cL_service 8 = .ok (.lastore, 1) := by decide +kernel
theorem dL_service_9 : decode cL_service 9 = .ok (.goto 9, 3) := by decide +kernel
theorem dL_service_12 : decode cL_service 12 = .ok (.astore_n 3, 1) := by decide +kernel
theorem dL_service_13 : decode cL_service 13 = .ok (.iconst 1, 1) := by decide +kernel
theorem dL_service_14 : decode cL_service 14 = .ok (.ireturn, 1) := by decide +kernel
theorem dL_service_15 : decode cL_service 15 = .ok (.astore_n 3, 1) := by decide +kernel
theorem dL_service_16 : decode cL_service 16 = .ok (.iconst 2, 1) := by decide +kernel
theorem dL_service_17 : decode cL_service 17 = .ok (.ireturn, 1) := by decide +kernel
theorem dL_service_18 : decode cL_service 18 = .ok (.iconst 0, 1) := by decide +kernel
theorem dL_service_19 : decode cL_service 19 = .ok (.ireturn, 1) := by decide +kernel
theorem dL_book_0 : decode cL_book 0 = .ok (.aload 6, 2) := by decide +kernel
theorem dL_book_2 : decode cL_book 2 = .ok (.iconst 0, 1) := by decide +kernel
theorem dL_book_3 : decode cL_book 3 = .ok (.aload_n 0, 1) := by decide +kernel
theorem dL_book_4 : decode cL_book 4 = .ok (.iload_n 1, 1) := by decide +kernel
theorem dL_book_5 : decode cL_book 5 = .ok (.iload_n 2, 1) := by decide +kernel
theorem dL_book_6 : decode cL_book 6 = .ok (.iload_n 3, 1) := by decide +kernel
theorem dL_book_7 : decode cL_book 7 = .ok (.iload 4, 2) := by decide +kernel
theorem dL_book_9 : decode cL_book 9 = .ok (.iload 5, 2) := by decide +kernel
theorem dL_book_11 : decode cL_book 11 = .ok (.invokevirtual 41, 3) := by decide +kernel
theorem dL_book_14 : decode cL_book 14 = .ok (.i2l, 1) := by decide +kernel
theorem dL_book_15 : decode cL_book 15 = .ok (.lastore, 1) := by decide +kernel
theorem dL_book_16 : decode cL_book 16 = .ok (.goto 15, 3) := by decide +kernel
theorem dL_book_19 : decode cL_book 19 = .ok (.astore 7, 2) := by decide +kernel
theorem dL_book_21 : decode cL_book 21 = .ok (.iconst 1, 1) := by decide +kernel
theorem dL_book_22 : decode cL_book 22 = .ok (.ireturn, 1) := by decide +kernel
theorem dL_book_23 : decode cL_book 23 = .ok (.astore 7, 2) := by decide +kernel
theorem dL_book_25 : decode cL_book 25 = .ok (.iconst 2, 1) := by decide +kernel
theorem dL_book_26 : decode cL_book 26 = .ok (.ireturn, 1) := by decide +kernel
theorem dL_book_27 : decode cL_book 27 = .ok (.astore 7, 2) := by decide +kernel
theorem dL_book_29 : decode cL_book 29 = .ok (.iconst 3, 1) := by decide +kernel
theorem dL_book_30 : decode cL_book 30 = .ok (.ireturn, 1) := by decide +kernel
theorem dL_book_31 : decode cL_book 31 = .ok (.iconst 0, 1) := by decide +kernel
theorem dL_book_32 : decode cL_book 32 = .ok (.ireturn, 1) := by decide +kernel
theorem dL_work_0 : decode cL_work 0 = .ok (.aload 4, 2) := by decide +kernel
theorem dL_work_2 : decode cL_work 2 = .ok (.iconst 0, 1) := by decide +kernel
theorem dL_work_3 : decode cL_work 3 = .ok (.aload_n 0, 1) := by decide +kernel
theorem dL_work_4 : decode cL_work 4 = .ok (.iload_n 1, 1) := by decide +kernel
theorem dL_work_5 : decode cL_work 5 = .ok (.iload_n 2, 1) := by decide +kernel
end
section
/-! My layer over the kit's judgement W: a world is a function from addresses to (ghost tag, cell); locals are a dense list. -/
abbrev Tg : Type := Nat × Nat × Nat
abbrev Wd : Type := Nat → Option (Tg × va_E)
def wup (w : Wd) (a : Nat) (x : Tg × va_E) : Wd := fun b => if b = a then some x else w b
theorem wup_s {w : Wd} {a : Nat} {x : Tg × va_E} : wup w a x a = some x := if_pos rfl
theorem wup_n {w : Wd} {a b : Nat} {x : Tg × va_E} (h : b ≠ a) : wup w a x b = w b := if_neg h
theorem wd_ne {w : Wd} {a b : Nat} {ta tb : Tg} {ea eb : va_E} (ha : w a = some (ta, ea)) (hb : w b = some (tb, eb)) (h : tb ≠ ta) : b ≠ a := by
  intro q
  subst q
  rw [ha] at hb
  exact h (congrArg (fun z => z.1) (Option.some.inj hb)).symm
theorem wup_t {w : Wd} {a b : Nat} {x : Tg × va_E} {ta tb : Tg} {ea eb : va_E} (ha : w a = some (ta, ea)) (hb : w b = some (tb, eb)) (h : tb ≠ ta) : wup w a x b = some (tb, eb) := (wup_n (wd_ne ha hb h)).trans hb
/-- a new cell stands apart from all that the world holds -/
theorem wup_f {w : Wd} {a b : Nat} {x y : Tg × va_E} (ha : w a = none) (hb : w b = some y) : wup w a x b = some y := (wup_n (fun q => by rw [q, ha] at hb; cases hb)).trans hb
/-- D, the array classes, where what the law makes begins, the empty array of ArrayList -/
abbrev Gw : Type := va_G × (Nat → ClassId) × Nat × Nat
abbrev tyL (K : Nat → ClassId) : List (ClassId × FieldType) := [(K 0, .int), (K 1, .object "java/lang/Object"), (K 2, .object "TrackNights$Section"), (K 3, .object "TrackNights$Values"), (K 4, .array .int), (K 5, .long), (K 6, .double)]
def n0A (Γ : Gw) : Nat → Prop := fun q => Γ.2.2.1 ≤ q
def wPic (Γ : Gw) (w : Wd) (H : Heap) : Prop := ∀ (a : Nat) (x : Tg × va_E), w a = some x → n0A Γ a ∧ va_at Γ.1 vwCl (a, x.2) H
theorem wPic.put {Γ : Gw} {w : Wd} {H H1 : Heap} {a : Nat} {t : Tg} {x : Tg × va_E} {e : va_E} (hP : wPic Γ w H) (hw : w a = some x) (he : va_at Γ.1 vwCl (a, e) H1) (oq : ∀ q : Nat, q ≠ a → H1[q]? = H[q]?) : wPic Γ (wup w a (t, e)) H1 := by
  intro b y hb
  by_cases hq : b = a
  · subst hq
    rw [wup_s] at hb
    cases hb
    exact ⟨(hP b _ hw).1, he⟩
  · rw [wup_n hq] at hb
    exact ⟨(hP b _ hb).1, (hP b _ hb).2.kept (oq b hq)⟩
theorem wPic.lt {Γ : Gw} {w : Wd} {H : Heap} (hP : wPic Γ w H) {a : Nat} {x : Tg × va_E} (h : w a = some x) : a < H.size := (hP a x h).2.lt
theorem wPic.fresh {Γ : Gw} {w : Wd} {H : Heap} (hP : wPic Γ w H) {a : Nat} (h : H.size ≤ a) : w a = none := by
  cases hw : w a with
  | none => rfl
  | some x => exact absurd (hP.lt hw) (by omega)
theorem wPic.new {Γ : Gw} {w : Wd} {H H1 : Heap} {t : Tg} {e : va_E} (hP : wPic Γ w H) (h0 : Γ.2.2.1 ≤ H.size) (he : va_at Γ.1 vwCl (H.size, e) H1) (oq : ∀ q : Nat, q < H.size → H1[q]? = H[q]?) : wPic Γ (wup w H.size (t, e)) H1 := by
  intro b y hb
  by_cases hq : b = H.size
  · subst hq
    rw [wup_s] at hb
    cases hb
    exact ⟨h0, he⟩
  · rw [wup_n hq] at hb
    exact ⟨(hP b _ hb).1, (hP b _ hb).2.kept (oq b (hP.lt hb))⟩
theorem wPic.keep {Γ : Gw} {w : Wd} {H H1 : Heap} (hP : wPic Γ w H) (oq : ∀ q : Nat, q < H.size → H1[q]? = H[q]?) : wPic Γ w H1 := fun b y hb => ⟨(hP b _ hb).1, (hP b _ hb).2.kept (oq b (hP.lt hb))⟩
theorem wPic.one {Γ : Gw} {w : Wd} {H : Heap} (hP : wPic Γ w H) {a : Nat} {t : Tg} {e : va_E} (h : w a = some (t, e)) : va_P Γ.1 vwCl [(a, e)] H := by
  intro k q hk
  have hz : k < 1 := (List.getElem?_eq_some_iff.mp hk).1
  rw [show k = 0 by omega] at hk
  cases hk
  exact (hP a _ h).2
/-! locals as a dense list -/
def den : List (Option Value) → Nat → List (Nat × Value)
  | [], _ => []
  | none :: r, i => den r (i + 1)
  | some v :: r, i => (i, v) :: den r (i + 1)
theorem den_mem : ∀ (lv : List (Option Value)) (k j : Nat) (v : Value), (j, v) ∈ den lv k ↔ k ≤ j ∧ lv[j - k]? = some (some v)
  | [], k, j, v => by simp [den]
  | none :: r, k, j, v => by
    rw [den, den_mem r (k + 1) j v]
    constructor
    · rintro ⟨h1, h2⟩
      refine ⟨by omega, ?_⟩
      rw [show j - k = (j - (k + 1)) + 1 by omega, List.getElem?_cons_succ]
      exact h2
    · rintro ⟨h1, h2⟩
      by_cases hj : j = k
      · subst hj
        simp at h2
      · refine ⟨by omega, ?_⟩
        rw [show j - k = (j - (k + 1)) + 1 by omega, List.getElem?_cons_succ] at h2
        exact h2
  | some u :: r, k, j, v => by
    rw [den, List.mem_cons, den_mem r (k + 1) j v]
    constructor
    · rintro (h | ⟨h1, h2⟩)
      · cases h
        exact ⟨Nat.le_refl _, by simp⟩
      · refine ⟨by omega, ?_⟩
        rw [show j - k = (j - (k + 1)) + 1 by omega, List.getElem?_cons_succ]
        exact h2
    · rintro ⟨h1, h2⟩
      by_cases hj : j = k
      · subst hj
        simp at h2
        exact Or.inl (by rw [h2])
      · refine Or.inr ⟨by omega, ?_⟩
        rw [show j - k = (j - (k + 1)) + 1 by omega, List.getElem?_cons_succ] at h2
        exact h2
def lh (ls : Array Slot) (nL : Nat) (lv : List (Option Value)) : Prop := lv_has ls nL (den lv 0) ∧ lv.length = nL
theorem lh_at {ls : Array Slot} {nL : Nat} {lv : List (Option Value)} (h : lh ls nL lv) {i : Nat} {v : Value} (hi : lv[i]? = some (some v)) : ls[i]? = some (.val v) := h.1.2.2 (i, v) ((den_mem lv 0 i v).mpr ⟨Nat.zero_le _, hi⟩)
/-- the place before i holds no long or double -/
def okS (lv : List (Option Value)) : Nat → Bool
  | 0 => true
  | i + 1 => match lv[i]? with
    | some (some v) => decide (v.category = 1)
    | _ => true
theorem lh_set {ls : Array Slot} {nL i : Nat} {lv : List (Option Value)} {v : Value} (hok : okS lv i = true) (hlen : lv.length = nL) (h : lv_has ls nL ((i, v) :: (den lv 0).filter (fun q => !(q.1 == i) && !(q.1 + 1 == i && q.2.category == 2)))) : lh ls nL (lv.set i (some v)) := by
  refine ⟨⟨h.1, h.2.1, fun q hq => ?_⟩, by rw [List.length_set]; exact hlen⟩
  obtain ⟨j, u⟩ := q
  rw [den_mem] at hq
  have hq2 := hq.2
  rw [Nat.sub_zero] at hq2
  by_cases hj : j = i
  · subst hj
    have hlen : j < (lv.set j (some v)).length := (List.getElem?_eq_some_iff.mp hq2).1
    rw [List.length_set] at hlen
    rw [List.getElem?_set_self hlen] at hq2
    cases hq2
    exact h.2.2 _ List.mem_cons_self
  · rw [List.getElem?_set_ne (Ne.symm hj)] at hq2
    refine h.2.2 _ (List.mem_cons_of_mem _ (List.mem_filter.mpr ⟨(den_mem lv 0 j u).mpr ⟨Nat.zero_le _, by rw [Nat.sub_zero]; exact hq2⟩, ?_⟩))
    cases i with
    | zero => simp [hj]
    | succ i =>
      by_cases hji : j = i
      · subst hji
        have hc : u.category = 1 := by
          simp only [okS, hq2, decide_eq_true_eq] at hok
          exact hok
        simp [hc]
      · simp [hj, hji]
theorem lh_set2 {ls : Array Slot} {nL i : Nat} {lv : List (Option Value)} {v : Value} (hok : okS lv i = true) (hlen : lv.length = nL) (h : lv_has ls nL ((i, v) :: (den lv 0).filter (fun q => !(q.1 == i) && (!(q.1 == i + 1) && !(q.1 + 1 == i && q.2.category == 2))))) : lh ls nL ((lv.set i (some v)).set (i + 1) none) := by
  refine ⟨⟨h.1, h.2.1, fun q hq => ?_⟩, by rw [List.length_set, List.length_set]; exact hlen⟩
  obtain ⟨j, u⟩ := q
  rw [den_mem] at hq
  have hq2 := hq.2
  rw [Nat.sub_zero] at hq2
  by_cases hj1 : j = i + 1
  · subst hj1
    have hlen : i + 1 < ((lv.set i (some v)).set (i + 1) none).length := (List.getElem?_eq_some_iff.mp hq2).1
    rw [List.length_set] at hlen
    rw [List.getElem?_set_self hlen] at hq2
    cases hq2
  · rw [List.getElem?_set_ne (Ne.symm hj1)] at hq2
    by_cases hj : j = i
    · subst hj
      have hlen : j < (lv.set j (some v)).length := (List.getElem?_eq_some_iff.mp hq2).1
      rw [List.length_set] at hlen
      rw [List.getElem?_set_self hlen] at hq2
      cases hq2
      exact h.2.2 _ List.mem_cons_self
    · rw [List.getElem?_set_ne (Ne.symm hj)] at hq2
      refine h.2.2 _ (List.mem_cons_of_mem _ (List.mem_filter.mpr ⟨(den_mem lv 0 j u).mpr ⟨Nat.zero_le _, by rw [Nat.sub_zero]; exact hq2⟩, ?_⟩))
      cases i with
      | zero => simp [hj, hj1]
      | succ i =>
        by_cases hji : j = i
        · subst hji
          have hc : u.category = 1 := by
            simp only [okS, hq2, decide_eq_true_eq] at hok
            exact hok
          simp [hc]
          omega
        · simp [hj, hji, hj1]
/-- the locals at a method's start -/
def ini : List Value → Nat → List (Option Value)
  | [], n => List.replicate n none
  | v :: vs, n => if v.category = 2 then some v :: none :: ini vs (n - 2) else some v :: ini vs (n - 1)
theorem ini_in : ∀ (vs : List Value) (n k : Nat) (q : Nat × Value), q ∈ den (ini vs n) k → q ∈ lv_args k vs
  | [], n, k, q, h => by
    exfalso
    obtain ⟨j, v⟩ := q
    have h2 := ((den_mem _ _ _ _).mp h).2
    simp only [ini] at h2
    have := List.mem_of_getElem? h2
    simp at this
  | v :: vs, n, k, q, h => by
    by_cases hc : v.category = 2
    · simp only [ini, if_pos hc, den, List.mem_cons] at h
      rw [lv_args, if_pos hc]
      rcases h with h | h
      · exact List.mem_cons.mpr (Or.inl h)
      · exact List.mem_cons_of_mem _ (ini_in vs (n - 2) (k + 2) q h)
    · simp only [ini, if_neg hc, den, List.mem_cons] at h
      rw [lv_args, if_neg hc]
      rcases h with h | h
      · exact List.mem_cons.mpr (Or.inl h)
      · exact List.mem_cons_of_mem _ (ini_in vs (n - 1) (k + 1) q h)
theorem lg_sl_cons (v : Value) (vs : List Value) : (lg_sl (v :: vs)).length = (if v.category = 2 then 2 else 1) + (lg_sl vs).length := by
  unfold lg_sl
  rw [List.flatMap_cons, List.length_append]
  split <;> rfl
theorem ini_len : ∀ (vs : List Value) (n : Nat), (lg_sl vs).length ≤ n → (ini vs n).length = n
  | [], n, _ => by simp [ini]
  | v :: vs, n, h => by
    rw [lg_sl_cons] at h
    by_cases hc : v.category = 2
    · rw [if_pos hc] at h
      rw [ini, if_pos hc, List.length_cons, List.length_cons, ini_len vs (n - 2) (by omega)]
      omega
    · rw [if_neg hc] at h
      rw [ini, if_neg hc, List.length_cons, ini_len vs (n - 1) (by omega)]
      omega
end
section
/-! the words of the tables: those that keep (TB), those that are warmed (NB), the texts (STR), pairs that don't cast (NC) -/
def TB : List Cond := lw_tbl.filter goodWord
theorem TB_of {w : Cond} (i : Nat) (h : lw_tbl[i]? = some w) (hg : goodWord w = true) : w ∈ TB := List.mem_filter.mpr ⟨List.mem_of_getElem? h, hg⟩
theorem TB_good : ∀ w ∈ TB, w ∈ TB ∧ ((w.onTables && w.keeps) = true ∨ ∃ ty, w = .arrayClass ty) := fun w h => ⟨h, good_of_word (List.mem_filter.mp h).2⟩
def nbw : Cond → Bool
  | .fieldLinkNest _ _ _ _ _ _ => true
  | .methodLinkNest _ _ _ _ => true
  | .castable _ _ => true
  | .declares _ => true
  | _ => false
def NB : List Cond := lw_tbl.filter nbw
theorem NB_of {w : Cond} (i : Nat) (h : lw_tbl[i]? = some w) (hg : nbw w = true) : w ∈ NB := List.mem_filter.mpr ⟨List.mem_of_getElem? h, hg⟩
theorem NB_ok : ∀ w ∈ NB, w.onTables = true := by
  intro w h
  have h2 := (List.mem_filter.mp h).2
  cases w <;> first | rfl | (simp [nbw] at h2)
theorem NB_warm {s U : State} (hW : s.WarmedH U.vm) (h : ∀ w ∈ NB, va_Nw w s) : ∀ w ∈ NB, va_Nw w U := by
  intro w hw
  have h1 := h w hw
  have h2 := (List.mem_filter.mp hw).2
  cases w <;> first | exact h1.warmF hW | exact h1.warmM hW | exact h1.warmC hW | exact h1.warmD hW | (simp [nbw] at h2)
def STR : List (String × Nat × String) := [("TrackNights", 334, "what is not 0 to 16"), ("TrackNights", 418, "section is not 0 to 19"), ("TrackNights", 292, "what is not 0 to 7"), ("TrackNights", 304, "what is not 0 to 4"), ("TrackNights", 428, "trains is not 0 to 40"), ("TrackNights", 356, "days is not 1 to 200"), ("TrackNights", 420, "no such machine"), ("TrackNights", 315, "what is not 0 to 3"), ("TrackNights", 422, "no such possession"), ("TrackNights", 320, "what is not 0 to 9"), ("TrackNights", 336, "track is not 0 or 1"), ("TrackNights", 424, "from or to is not 0 to 9"), ("TrackNights", 426, "to is below from"), ("TrackNights", 74, "speed is not 0 to 160"), ("TrackNights", 86, "heat is not -20 to 60"), ("TrackNights", 88, "days is not 1 to 60"), ("TrackNights", 92, "the day would be above 2000"), ("TrackNights", 102, "drift is not -2 to 2"), ("TrackNights", 108, "there were 12 measures"), ("TrackNights", 127, "no such measure"), ("TrackNights", 137, "the measure is aligned"), ("TrackNights", 142, "kind is not 0 to 2"), ("TrackNights", 144, "life is not 0 to 99"), ("TrackNights", 146, "there are 4 machines"), ("TrackNights", 159, "the machine is in a possession that is taken"), ("TrackNights", 164, "day is less than 5 later, or above 2000"), ("TrackNights", 166, "hours is not 2 to 8"), ("TrackNights", 168, "there were 16 possessions"), ("TrackNights", 174, "another possession of that day has a section in common"), ("TrackNights", 189, "the section is not in the possession"), ("TrackNights", 194, "the possession is not booked"), ("TrackNights", 199, "there are 6 works"), ("TrackNights", 214, "the works would take too long"), ("TrackNights", 220, "the machine is in another possession of that day"), ("TrackNights", 230, "end is not 0 or 1"), ("TrackNights", 232, "its day is not this one"), ("TrackNights", 237, "that end is marked"), ("TrackNights", 245, "not both ends are marked"), ("TrackNights", 253, "the possession is not taken"), ("TrackNights", 262, "sight is not 50 to 2000"), ("TrackNights", 366, "the possession is neither booked nor taken")]
def NC : List (String × String) := [("java/lang/IllegalArgumentException", "java/lang/IndexOutOfBoundsException"), ("java/lang/IllegalStateException", "java/lang/IndexOutOfBoundsException"), ("java/lang/IllegalStateException", "java/lang/IllegalArgumentException")]
theorem va_AOA.moved {ty : FieldType} {u U : State} (hvm : u.vm.Alike U.vm) (h : va_AOA ty u) : va_AOA ty U := by
  unfold va_AOA Cond.before Cond.holds at h ⊢
  simp only [Cond.value, beq_iff_eq, hvm.findClass] at h ⊢
  cases hf : u.vm.findClass (FieldType.array ty).toString with
  | none => rw [hf] at h; cases h
  | some comp =>
    rw [hf, Option.bind_some] at h
    rw [Option.bind_some]
    have hi : (U.vm.classes.findIdx? fun (x : Class) => match x.kind with | .array component _ => component == comp | _ => false) = (u.vm.classes.findIdx? fun (x : Class) => match x.kind with | .array component _ => component == comp | _ => false) := by
      have g1 := va_idx_bare U.vm comp
      have g2 := va_idx_bare u.vm comp
      first | rw [hvm.bare_eq] at g2 | rw [← hvm.bare_eq] at g2
      exact g1.symm.trans g2
    refine (congrArg (fun o : Option Nat => (o.bind (fun c => (U.vm.classes[c]?).map fun (k : Class) => match k.kind with | .array _ ty9 => decide (ty9 = FieldType.array ty) && decide (u.vm.findClass ("[" ++ (FieldType.array ty).toString) = some c) | _ => false))) hi).trans ?_
    refine Eq.trans ?_ h
    show Option.bind _ _ = Option.bind _ _
    cases hc : (u.vm.classes.findIdx? fun (x : Class) => match x.kind with | .array component _ => component == comp | _ => false) with
    | none => rfl
    | some c =>
      have h2 := (congrArg (fun o : Option Nat => (o.bind (fun c => (u.vm.classes[c]?).map fun (k : Class) => match k.kind with | .array _ ty9 => decide (ty9 = FieldType.array ty) && decide (u.vm.findClass ("[" ++ (FieldType.array ty).toString) = some c) | _ => false))) hc).symm.trans h
      rw [Option.bind_some] at h2
      rw [Option.bind_some, Option.bind_some]
      cases hk : u.vm.classes[c]? with
      | none => rw [hk] at h2; cases h2
      | some k =>
        obtain ⟨k', hk', he⟩ := hvm.2.2 _ _ hk
        rw [hk', Option.map_some, Option.map_some, he]
        rfl
/-- the interface method of the iterator, as the tables have it -/
abbrev itN : MethodName := ⟨"java/util/Iterator", "hasNext", "()Z"⟩
abbrev itX : MethodName := ⟨"java/util/Iterator", "next", "()Ljava/lang/Object;"⟩
/-- what is said of the tables besides -/
def EX (U : State) : Prop := va_AO "TrackNights$Section" U ∧ va_AO "TrackNights$Values" U ∧ va_AO "java/lang/Object" U ∧ va_AOA .int U ∧ va_Fw RJx35411 itN yJx35411_hasNext_aae02 U ∧ va_Fw RJx35411 itX yJx35411_next_0502b U ∧ (∃ mi, va_Mi "[Ljava/lang/Object;" mi U) ∧ va_Dc U ∧ ∀ q ∈ NC, va_Nc q.1 q.2 U
theorem EX.moved {u U : State} (hvm : u.vm.Alike U.vm) (h : EX u) : EX U := by
  obtain ⟨h1, h2, h3, h4, h5, h6, ⟨mi, h7⟩, h8, h9⟩ := h
  exact ⟨h1.moved hvm, h2.moved hvm, h3.moved hvm, h4.moved hvm, h5.moved (by decide) hvm, h6.moved (by decide) hvm, ⟨mi, h7.moved hvm⟩, h8.moved hvm, fun q hq => (h9 q hq).moved hvm⟩
end
section
/-! The context of a walk, what the tables and the statics say (EV), the walk itself (X), contracts (Ctr), and a row an instruction. -/
abbrev Cxt : Type := Program × Launch × Env × Room × State × MethodId × Array Value × List Frame × Method × Code × Gw × Nat × Nat × Nat × (Option Value → Wd → Prop) × (String → Wd → Prop)
def EV (Γ : Gw) (U : State) (H : Heap) : Prop :=
  va_K Γ.1 vwCl (tyL Γ.2.1) U ∧ (∀ w ∈ NB, va_Nw w U) ∧ (∀ q ∈ STR, ∃ a, vk_R q.1 q.2.1 q.2.2 a U) ∧
  vx_Zq Bundle.tN "UNASSIGNED_STACK" Bundle.steD (n0A Γ) U H ∧ vx_Zq Bundle.tN "SUPPRESSED_SENTINEL" Bundle.listD (n0A Γ) U H ∧
  va_Z "java/util/ArrayList" "DEFAULTCAPACITY_EMPTY_ELEMENTDATA" "[Ljava/lang/Object;" (.ref Γ.2.2.2) (n0A Γ) U H ∧ va_T (.object "java/lang/Object") Γ.2.2.2 0 (fun _ => .null) (n0A Γ) U H ∧ Γ.2.2.1 ≤ H.size ∧ EX U
theorem EV.kept {Γ : Gw} {U : State} {H H1 : Heap} (h : EV Γ U H) (hz : H.size ≤ H1.size) (hq : ∀ a : Nat, a < H.size → ¬ n0A Γ a → H1[a]? = H[a]?) : EV Γ U H1 := by
  obtain ⟨h1, h2, h3, h4, h5, h6, h7, h8, h9⟩ := h
  exact ⟨h1, h2, h3, h4.kept hq, h5.kept hq, h6.kept hq, h7.kept hq, Nat.le_trans h8 hz, h9⟩
theorem EV.warm {Γ : Gw} {s U : State} {H : Heap} (hW : s.WarmedH U.vm) (h : EV Γ s H) : EV Γ U H := by
  obtain ⟨h1, h2, h3, h4, h5, h6, h7, h8, h9⟩ := h
  exact ⟨h1.moved hW.alike, NB_warm hW h2, fun q hq => (h3 q hq).elim fun a h => ⟨a, h.warm hW⟩, h4.moved hW.alike, h5.moved hW.alike, h6.moved hW.alike, h7.moved hW.alike, h8, h9.moved hW.alike⟩
theorem EV.same {Γ : Gw} {u U : State} {H : Heap} (hv : U.vm = u.vm) (h : EV Γ u H) : EV Γ U H := by
  have ha : u.vm.Alike U.vm := by rw [hv]; exact Vm.Alike.refl _
  obtain ⟨h1, h2, h3, h4, h5, h6, h7, h8, h9⟩ := h
  exact ⟨h1.moved ha, fun w hw => va_Nw.same (NB_ok w hw) hv.symm (h2 w hw), fun q hq => (h3 q hq).elim fun a h => ⟨a, vk_R.same hv h⟩, h4.moved ha, h5.moved ha, h6.moved ha, h7.moved ha, h8, h9.moved ha⟩
def Qn (Γ : Gw) (post : Option Value → Wd → Prop) : Array Value → State → Outcome → State → Prop := fun _ st oc t => (∃ (r : Option Value) (w' : Wd), oc = .returned r ∧ wPic Γ w' t.heap ∧ post r w') ∧ va_F (n0A Γ) st t
def Qx (Γ : Gw) (xpost : String → Wd → Prop) : String → State → State → Prop := fun E st t => (∃ w' : Wd, wPic Γ w' t.heap ∧ xpost E w') ∧ va_F (n0A Γ) st t
/-- the machine, at pc with these locals and this stack in the world w, comes to a good end -/
def X (g : Cxt) (w : Wd) (kc ks pc : Nat) (lv : List (Option Value)) (st : List Value) : Prop := match g with
  | (p, l, e, R, s, m, args, below, meth, c, Γ, nL, mc, ms, post, xpost) => ∀ (H : Heap) (locs : List Loc) (ls : Array Slot), wPic Γ w H → va_S (n0A Γ) s.heap H locs → lh ls nL lv → W p l e R s m args below meth c H locs kc ks (vx_MQ below (Qn Γ post) (Qx Γ xpost) args s mc ms (n0A Γ)) (F0 m pc ls st)
def Cx (g : Cxt) (cc : ByteArray) (own nm : String) (rt : Option FieldType) (rm : Room) : Prop := match g with
  | (p, l, _, R, s, m, args, _, meth, c, Γ, nL, mc, ms, _, _) => CallFix p m c cc nL s args TB own ∧ meth.sig.returnType = rt ∧ meth.locks = false ∧ EV Γ s s.heap ∧ l.stackTraces = false ∧ R = rm ∧ rm.cells = mc ∧ rm.slots = ms ∧ (∀ x ∈ c.exceptionTable.toList, False) ∧ meth.name = nm
abbrev gL (g : Cxt) : Launch := g.2.1
abbrev gΓ (g : Cxt) : Gw := g.2.2.2.2.2.2.2.2.2.2.1
abbrev gM (g : Cxt) : Nat := g.2.2.2.2.2.2.2.2.2.2.2.2.1
abbrev gN (g : Cxt) : Nat := g.2.2.2.2.2.2.2.2.2.2.2.2.2.1
abbrev gP (g : Cxt) : Option Value → Wd → Prop := g.2.2.2.2.2.2.2.2.2.2.2.2.2.2.1
abbrev gX (g : Cxt) : String → Wd → Prop := g.2.2.2.2.2.2.2.2.2.2.2.2.2.2.2
abbrev gK (g : Cxt) : Nat → ClassId := (gΓ g).2.1
abbrev SpT : Type := Gw → List Value → Wd → (Option Value → Wd → Prop) → (String → Wd → Prop) → Prop
def PcW (Γ : Gw) (av : List Value) (w : Wd) : Array Value → State → Prop := va_Pc av (fun U => EV Γ U U.heap ∧ wPic Γ w U.heap)
/-- a method's contract: where the specification S asks for it, the method comes to a good end -/
def Ctr (l : Launch) (y : MethodName) (cc : ByteArray) (maxL : Nat) (ret : Option FieldType) (rm : Room) (S : SpT) : Prop :=
  ∀ (Γ : Gw) (av : List Value) (w : Wd) (post : Option Value → Wd → Prop) (xpost : String → Wd → Prop), S Γ av w post xpost →
    vx_Met l y (Cond.code y cc maxL ret :: TB) rm (PcW Γ av w) (Qn Γ post) (Qx Γ xpost) rm.cells rm.slots (n0A Γ)
theorem ctr_of {l : Launch} {y : MethodName} {cc : ByteArray} {maxL : Nat} {ret : Option FieldType} {rm : Room} {S : SpT} (hl : l.stackTraces = false) (hy : plainName y.cls = true)
    (body : ∀ (g : Cxt) (av : List Value) (w : Wd), gL g = l → Cx g cc y.cls y.name ret rm → S (gΓ g) av w (gP g) (gX g) → (lg_sl av).length ≤ maxL ∧ X g w 0 0 0 (ini av maxL) []) : Ctr l y cc maxL ret rm S := by
  intro Γ av w post xpost hS
  refine vx_ofW (cc := cc) (maxL := maxL) (ret := ret) hy rfl ?_
  intro p e s m args below meth c s₁ B hml hout hv
  obtain ⟨rfl, hE, hP⟩ := hv
  have hts := atoms_spec (ws := Cond.code y cc maxL ret :: TB) B.pre
  have hb := body (p, l, e, rm, s, m, av.toArray, below, meth, c, Γ, maxL, rm.cells, rm.slots, post, xpost) av w rfl
    ⟨⟨B.exec, B.bytes, hml, findClass_of_methodNamed B.named, fun w hw => hts w (List.mem_cons_of_mem _ hw)⟩, B.returns, B.notSynchronized, hE, hl, rfl, rfl, rfl, hout, (name_of_methodNamed B.named B.method).1⟩ hS
  have hl0 := lv_entry av (n := maxL) hb.1
  rw [lg_entry_eq]
  exact hb.2 s.heap [] _ hP va_S.rf ⟨⟨hl0.1, hl0.2.1, fun q hq => hl0.2.2 q (ini_in av maxL 0 q hq)⟩, ini_len av maxL hb.1⟩
end
section
/-! a row an instruction (written by rowsgen.py) -/
theorem x_iadd {g : Cxt} {cc : ByteArray} {own nm : String} {rt : Option FieldType} {rm : Room} (hG : Cx g cc own nm rt rm) {w : Wd} {kc ks pc : Nat} {lv : List (Option Value)} {st : List Value} {x y : Int32} (hd : decode cc pc = .ok (.iadd, 1))  (k : X g w kc ks (pc + 1) lv (.int (x + y) :: st)) : X g w kc ks pc lv (.int y :: .int x :: st) := by
  obtain ⟨p, l, e, R, s, m, args, below, meth, c, Γ, nL, mc, ms, post, xpost⟩ := g
  obtain ⟨hF, hr, hlk, hE, hsl, rfl, hmc, hms, hout, hnm⟩ := hG
  intro H locs ls hP hS hv
  exact lv_iadd hF.1 hF.2.1 hd (k H locs ls hP hS hv)
theorem x_isub {g : Cxt} {cc : ByteArray} {own nm : String} {rt : Option FieldType} {rm : Room} (hG : Cx g cc own nm rt rm) {w : Wd} {kc ks pc : Nat} {lv : List (Option Value)} {st : List Value} {x y : Int32} (hd : decode cc pc = .ok (.isub, 1))  (k : X g w kc ks (pc + 1) lv (.int (x - y) :: st)) : X g w kc ks pc lv (.int y :: .int x :: st) := by
  obtain ⟨p, l, e, R, s, m, args, below, meth, c, Γ, nL, mc, ms, post, xpost⟩ := g
  obtain ⟨hF, hr, hlk, hE, hsl, rfl, hmc, hms, hout, hnm⟩ := hG
  intro H locs ls hP hS hv
  exact lv_isub hF.1 hF.2.1 hd (k H locs ls hP hS hv)
theorem x_imul {g : Cxt} {cc : ByteArray} {own nm : String} {rt : Option FieldType} {rm : Room} (hG : Cx g cc own nm rt rm) {w : Wd} {kc ks pc : Nat} {lv : List (Option Value)} {st : List Value} {x y : Int32} (hd : decode cc pc = .ok (.imul, 1))  (k : X g w kc ks (pc + 1) lv (.int (x * y) :: st)) : X g w kc ks pc lv (.int y :: .int x :: st) := by
  obtain ⟨p, l, e, R, s, m, args, below, meth, c, Γ, nL, mc, ms, post, xpost⟩ := g
  obtain ⟨hF, hr, hlk, hE, hsl, rfl, hmc, hms, hout, hnm⟩ := hG
  intro H locs ls hP hS hv
  exact lv_imul hF.1 hF.2.1 hd (k H locs ls hP hS hv)
theorem x_iand {g : Cxt} {cc : ByteArray} {own nm : String} {rt : Option FieldType} {rm : Room} (hG : Cx g cc own nm rt rm) {w : Wd} {kc ks pc : Nat} {lv : List (Option Value)} {st : List Value} {x y : Int32} (hd : decode cc pc = .ok (.iand, 1))  (k : X g w kc ks (pc + 1) lv (.int (x &&& y) :: st)) : X g w kc ks pc lv (.int y :: .int x :: st) := by
  obtain ⟨p, l, e, R, s, m, args, below, meth, c, Γ, nL, mc, ms, post, xpost⟩ := g
  obtain ⟨hF, hr, hlk, hE, hsl, rfl, hmc, hms, hout, hnm⟩ := hG
  intro H locs ls hP hS hv
  exact lv_iand hF.1 hF.2.1 hd (k H locs ls hP hS hv)
theorem x_ior {g : Cxt} {cc : ByteArray} {own nm : String} {rt : Option FieldType} {rm : Room} (hG : Cx g cc own nm rt rm) {w : Wd} {kc ks pc : Nat} {lv : List (Option Value)} {st : List Value} {x y : Int32} (hd : decode cc pc = .ok (.ior, 1))  (k : X g w kc ks (pc + 1) lv (.int (x ||| y) :: st)) : X g w kc ks pc lv (.int y :: .int x :: st) := by
  obtain ⟨p, l, e, R, s, m, args, below, meth, c, Γ, nL, mc, ms, post, xpost⟩ := g
  obtain ⟨hF, hr, hlk, hE, hsl, rfl, hmc, hms, hout, hnm⟩ := hG
  intro H locs ls hP hS hv
  exact lv_ior hF.1 hF.2.1 hd (k H locs ls hP hS hv)
theorem x_ishl {g : Cxt} {cc : ByteArray} {own nm : String} {rt : Option FieldType} {rm : Room} (hG : Cx g cc own nm rt rm) {w : Wd} {kc ks pc : Nat} {lv : List (Option Value)} {st : List Value} {x y : Int32} (hd : decode cc pc = .ok (.ishl, 1))  (k : X g w kc ks (pc + 1) lv (.int (x <<< (y &&& 31)) :: st)) : X g w kc ks pc lv (.int y :: .int x :: st) := by
  obtain ⟨p, l, e, R, s, m, args, below, meth, c, Γ, nL, mc, ms, post, xpost⟩ := g
  obtain ⟨hF, hr, hlk, hE, hsl, rfl, hmc, hms, hout, hnm⟩ := hG
  intro H locs ls hP hS hv
  exact lv_ishl hF.1 hF.2.1 hd (k H locs ls hP hS hv)
theorem x_ishr {g : Cxt} {cc : ByteArray} {own nm : String} {rt : Option FieldType} {rm : Room} (hG : Cx g cc own nm rt rm) {w : Wd} {kc ks pc : Nat} {lv : List (Option Value)} {st : List Value} {x y : Int32} (hd : decode cc pc = .ok (.ishr, 1))  (k : X g w kc ks (pc + 1) lv (.int (x >>> (y &&& 31)) :: st)) : X g w kc ks pc lv (.int y :: .int x :: st) := by
  obtain ⟨p, l, e, R, s, m, args, below, meth, c, Γ, nL, mc, ms, post, xpost⟩ := g
  obtain ⟨hF, hr, hlk, hE, hsl, rfl, hmc, hms, hout, hnm⟩ := hG
  intro H locs ls hP hS hv
  exact lv_ishr hF.1 hF.2.1 hd (k H locs ls hP hS hv)
theorem x_idiv {g : Cxt} {cc : ByteArray} {own nm : String} {rt : Option FieldType} {rm : Room} (hG : Cx g cc own nm rt rm) {w : Wd} {kc ks pc : Nat} {lv : List (Option Value)} {st : List Value} {x y : Int32} (hd : decode cc pc = .ok (.idiv, 1)) (hne : ¬ y = 0) (k : X g w kc ks (pc + 1) lv (.int (x / y) :: st)) : X g w kc ks pc lv (.int y :: .int x :: st) := by
  obtain ⟨p, l, e, R, s, m, args, below, meth, c, Γ, nL, mc, ms, post, xpost⟩ := g
  obtain ⟨hF, hr, hlk, hE, hsl, rfl, hmc, hms, hout, hnm⟩ := hG
  intro H locs ls hP hS hv
  exact lv_idiv hF.1 hF.2.1 hd hne (k H locs ls hP hS hv)
theorem x_irem {g : Cxt} {cc : ByteArray} {own nm : String} {rt : Option FieldType} {rm : Room} (hG : Cx g cc own nm rt rm) {w : Wd} {kc ks pc : Nat} {lv : List (Option Value)} {st : List Value} {x y : Int32} (hd : decode cc pc = .ok (.irem, 1)) (hne : ¬ y = 0) (k : X g w kc ks (pc + 1) lv (.int (x - x / y * y) :: st)) : X g w kc ks pc lv (.int y :: .int x :: st) := by
  obtain ⟨p, l, e, R, s, m, args, below, meth, c, Γ, nL, mc, ms, post, xpost⟩ := g
  obtain ⟨hF, hr, hlk, hE, hsl, rfl, hmc, hms, hout, hnm⟩ := hG
  intro H locs ls hP hS hv
  exact lv_irem hF.1 hF.2.1 hd hne (k H locs ls hP hS hv)
theorem x_iushr {g : Cxt} {cc : ByteArray} {own nm : String} {rt : Option FieldType} {rm : Room} (hG : Cx g cc own nm rt rm) {w : Wd} {kc ks pc : Nat} {lv : List (Option Value)} {st : List Value} {x y v : Int32} (hd : decode cc pc = .ok (.iushr, 1)) (he : (x.toUInt32 >>> (y.toUInt32 &&& Int32.toUInt32 31)).toInt32 = v) (k : X g w kc ks (pc + 1) lv (.int v :: st)) : X g w kc ks pc lv (.int y :: .int x :: st) := by
  obtain ⟨p, l, e, R, s, m, args, below, meth, c, Γ, nL, mc, ms, post, xpost⟩ := g
  obtain ⟨hF, hr, hlk, hE, hsl, rfl, hmc, hms, hout, hnm⟩ := hG
  intro H locs ls hP hS hv
  exact lv_iushr hF.1 hF.2.1 hd he (k H locs ls hP hS hv)
theorem x_ladd {g : Cxt} {cc : ByteArray} {own nm : String} {rt : Option FieldType} {rm : Room} (hG : Cx g cc own nm rt rm) {w : Wd} {kc ks pc : Nat} {lv : List (Option Value)} {st : List Value} {x y : Int64} (hd : decode cc pc = .ok (.ladd, 1))  (k : X g w kc ks (pc + 1) lv (.long (x + y) :: st)) : X g w kc ks pc lv (.long y :: .long x :: st) := by
  obtain ⟨p, l, e, R, s, m, args, below, meth, c, Γ, nL, mc, ms, post, xpost⟩ := g
  obtain ⟨hF, hr, hlk, hE, hsl, rfl, hmc, hms, hout, hnm⟩ := hG
  intro H locs ls hP hS hv
  exact lv_ladd hF.1 hF.2.1 hd (k H locs ls hP hS hv)
theorem x_lmul {g : Cxt} {cc : ByteArray} {own nm : String} {rt : Option FieldType} {rm : Room} (hG : Cx g cc own nm rt rm) {w : Wd} {kc ks pc : Nat} {lv : List (Option Value)} {st : List Value} {x y : Int64} (hd : decode cc pc = .ok (.lmul, 1))  (k : X g w kc ks (pc + 1) lv (.long (x * y) :: st)) : X g w kc ks pc lv (.long y :: .long x :: st) := by
  obtain ⟨p, l, e, R, s, m, args, below, meth, c, Γ, nL, mc, ms, post, xpost⟩ := g
  obtain ⟨hF, hr, hlk, hE, hsl, rfl, hmc, hms, hout, hnm⟩ := hG
  intro H locs ls hP hS hv
  exact lv_lmul hF.1 hF.2.1 hd (k H locs ls hP hS hv)
theorem x_i2l {g : Cxt} {cc : ByteArray} {own nm : String} {rt : Option FieldType} {rm : Room} (hG : Cx g cc own nm rt rm) {w : Wd} {kc ks pc : Nat} {lv : List (Option Value)} {st : List Value} {x : Int32} (hd : decode cc pc = .ok (.i2l, 1)) (k : X g w kc ks (pc + 1) lv (.long x.toInt64 :: st)) : X g w kc ks pc lv (.int x :: st) := by
  obtain ⟨p, l, e, R, s, m, args, below, meth, c, Γ, nL, mc, ms, post, xpost⟩ := g
  obtain ⟨hF, hr, hlk, hE, hsl, rfl, hmc, hms, hout, hnm⟩ := hG
  intro H locs ls hP hS hv
  exact lv_i2l hF.1 hF.2.1 hd rfl (k H locs ls hP hS hv)
theorem x_lcmp {g : Cxt} {cc : ByteArray} {own nm : String} {rt : Option FieldType} {rm : Room} (hG : Cx g cc own nm rt rm) {w : Wd} {kc ks pc : Nat} {lv : List (Option Value)} {st : List Value} {x y : Int64} (hd : decode cc pc = .ok (.lcmp, 1))  (k : X g w kc ks (pc + 1) lv (.int (lg_cmp x y) :: st)) : X g w kc ks pc lv (.long y :: .long x :: st) := by
  obtain ⟨p, l, e, R, s, m, args, below, meth, c, Γ, nL, mc, ms, post, xpost⟩ := g
  obtain ⟨hF, hr, hlk, hE, hsl, rfl, hmc, hms, hout, hnm⟩ := hG
  intro H locs ls hP hS hv
  exact W.lcmp hF.1 hF.2.1 hd (k H locs ls hP hS hv)
theorem x_dcmp {g : Cxt} {cc : ByteArray} {own nm : String} {rt : Option FieldType} {rm : Room} (hG : Cx g cc own nm rt rm) {w : Wd} {kc ks pc : Nat} {lv : List (Option Value)} {st : List Value} {x y : UInt64} {op : CmpOp} (hd : decode cc pc = .ok (.dcmp op, 1))  (k : X g w kc ks (pc + 1) lv (.int (Op.cmpValue (FP.dcmp x y) op) :: st)) : X g w kc ks pc lv (.double y :: .double x :: st) := by
  obtain ⟨p, l, e, R, s, m, args, below, meth, c, Γ, nL, mc, ms, post, xpost⟩ := g
  obtain ⟨hF, hr, hlk, hE, hsl, rfl, hmc, hms, hout, hnm⟩ := hG
  intro H locs ls hP hS hv
  exact lv_dcmp hF.1 hF.2.1 hd (k H locs ls hP hS hv)
theorem x_i2d {g : Cxt} {cc : ByteArray} {own nm : String} {rt : Option FieldType} {rm : Room} (hG : Cx g cc own nm rt rm) {w : Wd} {kc ks pc : Nat} {lv : List (Option Value)} {st : List Value} {x : Int32} (hd : decode cc pc = .ok (.i2d, 1))  (k : X g w kc ks (pc + 1) lv (.double (FP.i2d x) :: st)) : X g w kc ks pc lv (.int x :: st) := by
  obtain ⟨p, l, e, R, s, m, args, below, meth, c, Γ, nL, mc, ms, post, xpost⟩ := g
  obtain ⟨hF, hr, hlk, hE, hsl, rfl, hmc, hms, hout, hnm⟩ := hG
  intro H locs ls hP hS hv
  exact lv_i2d hF.1 hF.2.1 hd (k H locs ls hP hS hv)
theorem x_ddiv {g : Cxt} {cc : ByteArray} {own nm : String} {rt : Option FieldType} {rm : Room} (hG : Cx g cc own nm rt rm) {w : Wd} {kc ks pc : Nat} {lv : List (Option Value)} {st : List Value} {x y : UInt64} (hd : decode cc pc = .ok (.ddiv, 1)) (hne : vf_n64 (FP.ddiv x y)) (k : X g w kc ks (pc + 1) lv (.double (FP.ddiv x y) :: st)) : X g w kc ks pc lv (.double y :: .double x :: st) := by
  obtain ⟨p, l, e, R, s, m, args, below, meth, c, Γ, nL, mc, ms, post, xpost⟩ := g
  obtain ⟨hF, hr, hlk, hE, hsl, rfl, hmc, hms, hout, hnm⟩ := hG
  intro H locs ls hP hS hv
  exact lv_ddiv hF.1 hF.2.1 hd hne (k H locs ls hP hS hv)
theorem x_iconst {g : Cxt} {cc : ByteArray} {own nm : String} {rt : Option FieldType} {rm : Room} (hG : Cx g cc own nm rt rm) {w : Wd} {kc ks pc : Nat} {lv : List (Option Value)} {st : List Value} {n : Int} (v : Int32) (hd : decode cc pc = .ok (.iconst n, 1)) (he : Int32.ofInt n = v) (k : X g w kc ks (pc + 1) lv (.int v :: st)) : X g w kc ks pc lv st := by
  obtain ⟨p, l, e, R, s, m, args, below, meth, c, Γ, nL, mc, ms, post, xpost⟩ := g
  obtain ⟨hF, hr, hlk, hE, hsl, rfl, hmc, hms, hout, hnm⟩ := hG
  intro H locs ls hP hS hv
  exact lv_iconst hF.1 hF.2.1 hd he (k H locs ls hP hS hv)
theorem x_bipush {g : Cxt} {cc : ByteArray} {own nm : String} {rt : Option FieldType} {rm : Room} (hG : Cx g cc own nm rt rm) {w : Wd} {kc ks pc : Nat} {lv : List (Option Value)} {st : List Value} {n : Int} (v : Int32) (hd : decode cc pc = .ok (.bipush n, 2)) (he : (Int8.ofInt n).toInt32 = v) (k : X g w kc ks (pc + 2) lv (.int v :: st)) : X g w kc ks pc lv st := by
  obtain ⟨p, l, e, R, s, m, args, below, meth, c, Γ, nL, mc, ms, post, xpost⟩ := g
  obtain ⟨hF, hr, hlk, hE, hsl, rfl, hmc, hms, hout, hnm⟩ := hG
  intro H locs ls hP hS hv
  exact lv_bipush hF.1 hF.2.1 hd he (k H locs ls hP hS hv)
theorem x_sipush {g : Cxt} {cc : ByteArray} {own nm : String} {rt : Option FieldType} {rm : Room} (hG : Cx g cc own nm rt rm) {w : Wd} {kc ks pc : Nat} {lv : List (Option Value)} {st : List Value} {n : Int} (v : Int32) (hd : decode cc pc = .ok (.sipush n, 3)) (he : (Int16.ofInt n).toInt32 = v) (k : X g w kc ks (pc + 3) lv (.int v :: st)) : X g w kc ks pc lv st := by
  obtain ⟨p, l, e, R, s, m, args, below, meth, c, Γ, nL, mc, ms, post, xpost⟩ := g
  obtain ⟨hF, hr, hlk, hE, hsl, rfl, hmc, hms, hout, hnm⟩ := hG
  intro H locs ls hP hS hv
  exact lv_sipush hF.1 hF.2.1 hd he (k H locs ls hP hS hv)
theorem x_lconst {g : Cxt} {cc : ByteArray} {own nm : String} {rt : Option FieldType} {rm : Room} (hG : Cx g cc own nm rt rm) {w : Wd} {kc ks pc : Nat} {lv : List (Option Value)} {st : List Value} {n : Fin 2} (v : Int64) (hd : decode cc pc = .ok (.lconst n, 1)) (he : Int64.ofNat (n : Nat) = v) (k : X g w kc ks (pc + 1) lv (.long v :: st)) : X g w kc ks pc lv st := by
  obtain ⟨p, l, e, R, s, m, args, below, meth, c, Γ, nL, mc, ms, post, xpost⟩ := g
  obtain ⟨hF, hr, hlk, hE, hsl, rfl, hmc, hms, hout, hnm⟩ := hG
  intro H locs ls hP hS hv
  exact lv_lconst hF.1 hF.2.1 hd he (k H locs ls hP hS hv)
theorem x_dconst0 {g : Cxt} {cc : ByteArray} {own nm : String} {rt : Option FieldType} {rm : Room} (hG : Cx g cc own nm rt rm) {w : Wd} {kc ks pc : Nat} {lv : List (Option Value)} {st : List Value} (hd : decode cc pc = .ok (.dconst 0, 1)) (k : X g w kc ks (pc + 1) lv (.double FP.dconst0 :: st)) : X g w kc ks pc lv st := by
  obtain ⟨p, l, e, R, s, m, args, below, meth, c, Γ, nL, mc, ms, post, xpost⟩ := g
  obtain ⟨hF, hr, hlk, hE, hsl, rfl, hmc, hms, hout, hnm⟩ := hG
  intro H locs ls hP hS hv
  exact lv_dconst0 hF.1 hF.2.1 hd (k H locs ls hP hS hv)
theorem x_null {g : Cxt} {cc : ByteArray} {own nm : String} {rt : Option FieldType} {rm : Room} (hG : Cx g cc own nm rt rm) {w : Wd} {kc ks pc : Nat} {lv : List (Option Value)} {st : List Value} (hd : decode cc pc = .ok (.aconst_null, 1)) (k : X g w kc ks (pc + 1) lv (.null :: st)) : X g w kc ks pc lv st := by
  obtain ⟨p, l, e, R, s, m, args, below, meth, c, Γ, nL, mc, ms, post, xpost⟩ := g
  obtain ⟨hF, hr, hlk, hE, hsl, rfl, hmc, hms, hout, hnm⟩ := hG
  intro H locs ls hP hS hv
  exact lv_null hF.1 hF.2.1 hd (k H locs ls hP hS hv)
theorem x_ldcw {g : Cxt} {cc : ByteArray} {own nm : String} {rt : Option FieldType} {rm : Room} (hG : Cx g cc own nm rt rm) {w : Wd} {kc ks pc : Nat} {lv : List (Option Value)} {st : List Value} {i : Nat} (v : Int32) (hd : decode cc pc = .ok (.ldc_w i, 3)) (hc : Cond.constant own i v ∈ TB) (k : X g w kc ks (pc + 3) lv (.int v :: st)) : X g w kc ks pc lv st := by
  obtain ⟨p, l, e, R, s, m, args, below, meth, c, Γ, nL, mc, ms, post, xpost⟩ := g
  obtain ⟨hF, hr, hlk, hE, hsl, rfl, hmc, hms, hout, hnm⟩ := hG
  intro H locs ls hP hS hv
  exact lv_ldcw hF.1 hF.2.1 hF.2.2.2.1 (hF.2.2.2.2 _ hc) hd (k H locs ls hP hS hv)
theorem x_ldc {g : Cxt} {cc : ByteArray} {own nm : String} {rt : Option FieldType} {rm : Room} (hG : Cx g cc own nm rt rm) {w : Wd} {kc ks pc : Nat} {lv : List (Option Value)} {st : List Value} {i : Nat} (v : Int32) (hd : decode cc pc = .ok (.ldc i, 2)) (hc : Cond.constant own i v ∈ TB) (k : X g w kc ks (pc + 2) lv (.int v :: st)) : X g w kc ks pc lv st := by
  obtain ⟨p, l, e, R, s, m, args, below, meth, c, Γ, nL, mc, ms, post, xpost⟩ := g
  obtain ⟨hF, hr, hlk, hE, hsl, rfl, hmc, hms, hout, hnm⟩ := hG
  intro H locs ls hP hS hv
  exact lv_ldc hF.1 hF.2.1 hF.2.2.2.1 (hF.2.2.2.2 _ hc) hd (k H locs ls hP hS hv)
theorem x_ldc2 {g : Cxt} {cc : ByteArray} {own nm : String} {rt : Option FieldType} {rm : Room} (hG : Cx g cc own nm rt rm) {w : Wd} {kc ks pc : Nat} {lv : List (Option Value)} {st : List Value} {i : Nat} (v : Int64) (hd : decode cc pc = .ok (.ldc2_w i, 3)) (hc : Cond.constantLong own i v ∈ TB) (k : X g w kc ks (pc + 3) lv (.long v :: st)) : X g w kc ks pc lv st := by
  obtain ⟨p, l, e, R, s, m, args, below, meth, c, Γ, nL, mc, ms, post, xpost⟩ := g
  obtain ⟨hF, hr, hlk, hE, hsl, rfl, hmc, hms, hout, hnm⟩ := hG
  intro H locs ls hP hS hv
  exact lv_ldc2 hF.1 hF.2.1 hF.2.2.2.1 (hF.2.2.2.2 _ hc) hd (k H locs ls hP hS hv)
theorem x_ldc2d {g : Cxt} {cc : ByteArray} {own nm : String} {rt : Option FieldType} {rm : Room} (hG : Cx g cc own nm rt rm) {w : Wd} {kc ks pc : Nat} {lv : List (Option Value)} {st : List Value} {i : Nat} (v : UInt64) (hd : decode cc pc = .ok (.ldc2_w i, 3)) (hc : Cond.constantDouble own i v ∈ TB) (k : X g w kc ks (pc + 3) lv (.double v :: st)) : X g w kc ks pc lv st := by
  obtain ⟨p, l, e, R, s, m, args, below, meth, c, Γ, nL, mc, ms, post, xpost⟩ := g
  obtain ⟨hF, hr, hlk, hE, hsl, rfl, hmc, hms, hout, hnm⟩ := hG
  intro H locs ls hP hS hv
  exact lv_ldc2d hF.1 hF.2.1 hF.2.2.2.1 (hF.2.2.2.2 _ hc) hd (k H locs ls hP hS hv)
theorem x_dup {g : Cxt} {cc : ByteArray} {own nm : String} {rt : Option FieldType} {rm : Room} (hG : Cx g cc own nm rt rm) {w : Wd} {kc ks pc : Nat} {lv : List (Option Value)} {st : List Value} {va : Value} (hd : decode cc pc = .ok (.dup, 1)) (h1 : va.category = 1) (k : X g w kc ks (pc + 1) lv (va :: va :: st)) : X g w kc ks pc lv (va :: st) := by
  obtain ⟨p, l, e, R, s, m, args, below, meth, c, Γ, nL, mc, ms, post, xpost⟩ := g
  obtain ⟨hF, hr, hlk, hE, hsl, rfl, hmc, hms, hout, hnm⟩ := hG
  intro H locs ls hP hS hv
  exact lv_dup hF.1 hF.2.1 hd h1 (k H locs ls hP hS hv)
theorem x_dup2 {g : Cxt} {cc : ByteArray} {own nm : String} {rt : Option FieldType} {rm : Room} (hG : Cx g cc own nm rt rm) {w : Wd} {kc ks pc : Nat} {lv : List (Option Value)} {st : List Value} {va vb : Value} (hd : decode cc pc = .ok (.dup2, 1)) (h1 : va.category = 1) (h2 : vb.category = 1) (k : X g w kc ks (pc + 1) lv (va :: vb :: va :: vb :: st)) : X g w kc ks pc lv (va :: vb :: st) := by
  obtain ⟨p, l, e, R, s, m, args, below, meth, c, Γ, nL, mc, ms, post, xpost⟩ := g
  obtain ⟨hF, hr, hlk, hE, hsl, rfl, hmc, hms, hout, hnm⟩ := hG
  intro H locs ls hP hS hv
  exact lv_dup2_11 hF.1 hF.2.1 hd h1 h2 (k H locs ls hP hS hv)
theorem x_dup2L {g : Cxt} {cc : ByteArray} {own nm : String} {rt : Option FieldType} {rm : Room} (hG : Cx g cc own nm rt rm) {w : Wd} {kc ks pc : Nat} {lv : List (Option Value)} {st : List Value} {va : Value} (hd : decode cc pc = .ok (.dup2, 1)) (h1 : va.category = 2) (k : X g w kc ks (pc + 1) lv (va :: va :: st)) : X g w kc ks pc lv (va :: st) := by
  obtain ⟨p, l, e, R, s, m, args, below, meth, c, Γ, nL, mc, ms, post, xpost⟩ := g
  obtain ⟨hF, hr, hlk, hE, hsl, rfl, hmc, hms, hout, hnm⟩ := hG
  intro H locs ls hP hS hv
  exact lv_dup2_2 hF.1 hF.2.1 hd h1 (k H locs ls hP hS hv)
theorem x_dup_x1 {g : Cxt} {cc : ByteArray} {own nm : String} {rt : Option FieldType} {rm : Room} (hG : Cx g cc own nm rt rm) {w : Wd} {kc ks pc : Nat} {lv : List (Option Value)} {st : List Value} {va vb : Value} (hd : decode cc pc = .ok (.dup_x1, 1)) (h1 : va.category = 1) (h2 : vb.category = 1) (k : X g w kc ks (pc + 1) lv (va :: vb :: va :: st)) : X g w kc ks pc lv (va :: vb :: st) := by
  obtain ⟨p, l, e, R, s, m, args, below, meth, c, Γ, nL, mc, ms, post, xpost⟩ := g
  obtain ⟨hF, hr, hlk, hE, hsl, rfl, hmc, hms, hout, hnm⟩ := hG
  intro H locs ls hP hS hv
  exact lv_dup_x1 hF.1 hF.2.1 hd h1 h2 (k H locs ls hP hS hv)
theorem x_pop {g : Cxt} {cc : ByteArray} {own nm : String} {rt : Option FieldType} {rm : Room} (hG : Cx g cc own nm rt rm) {w : Wd} {kc ks pc : Nat} {lv : List (Option Value)} {st : List Value} {va : Value} (hd : decode cc pc = .ok (.pop, 1)) (h1 : va.category = 1) (k : X g w kc ks (pc + 1) lv (st)) : X g w kc ks pc lv (va :: st) := by
  obtain ⟨p, l, e, R, s, m, args, below, meth, c, Γ, nL, mc, ms, post, xpost⟩ := g
  obtain ⟨hF, hr, hlk, hE, hsl, rfl, hmc, hms, hout, hnm⟩ := hG
  intro H locs ls hP hS hv
  exact lv_pop hF.1 hF.2.1 hd h1 (k H locs ls hP hS hv)
theorem x_goto {g : Cxt} {cc : ByteArray} {own nm : String} {rt : Option FieldType} {rm : Room} (hG : Cx g cc own nm rt rm) {w : Wd} {kc ks pc : Nat} {lv : List (Option Value)} {st : List Value} {off : Int} (tgt : Nat) (hd : decode cc pc = .ok (.goto off, 3)) (ht : (pc : Int) + off = (tgt : Int)) (k : X g w kc ks tgt lv st) : X g w kc ks pc lv st := by
  obtain ⟨p, l, e, R, s, m, args, below, meth, c, Γ, nL, mc, ms, post, xpost⟩ := g
  obtain ⟨hF, hr, hlk, hE, hsl, rfl, hmc, hms, hout, hnm⟩ := hG
  intro H locs ls hP hS hv
  exact lv_goto hF.1 hF.2.1 hd ht (k H locs ls hP hS hv)
theorem x_if_eq {g : Cxt} {cc : ByteArray} {own nm : String} {rt : Option FieldType} {rm : Room} (hG : Cx g cc own nm rt rm) {w : Wd} {kc ks pc : Nat} {lv : List (Option Value)} {st : List Value} {x : Int32} {off : Int} (tgt : Nat) (hd : decode cc pc = .ok (.ifCond .eq off, 3)) (ht : (pc : Int) + off = (tgt : Int)) (kt : x = 0 → X g w kc ks tgt lv st) (kf : ¬ x = 0 → X g w kc ks (pc + 3) lv st) : X g w kc ks pc lv (.int x :: st) := by
  obtain ⟨p, l, e, R, s, m, args, below, meth, c, Γ, nL, mc, ms, post, xpost⟩ := g
  obtain ⟨hF, hr, hlk, hE, hsl, rfl, hmc, hms, hout, hnm⟩ := hG
  intro H locs ls hP hS hv
  exact lv_if_eq hF.1 hF.2.1 hd ht (fun h => kt h H locs ls hP hS hv) (fun h => kf h H locs ls hP hS hv)
theorem x_icmp_eq {g : Cxt} {cc : ByteArray} {own nm : String} {rt : Option FieldType} {rm : Room} (hG : Cx g cc own nm rt rm) {w : Wd} {kc ks pc : Nat} {lv : List (Option Value)} {st : List Value} {x y : Int32} {off : Int} (tgt : Nat) (hd : decode cc pc = .ok (.if_icmp .eq off, 3)) (ht : (pc : Int) + off = (tgt : Int)) (kt : x = y → X g w kc ks tgt lv st) (kf : ¬ x = y → X g w kc ks (pc + 3) lv st) : X g w kc ks pc lv (.int y :: .int x :: st) := by
  obtain ⟨p, l, e, R, s, m, args, below, meth, c, Γ, nL, mc, ms, post, xpost⟩ := g
  obtain ⟨hF, hr, hlk, hE, hsl, rfl, hmc, hms, hout, hnm⟩ := hG
  intro H locs ls hP hS hv
  exact lv_icmp_eq hF.1 hF.2.1 hd ht (fun h => kt h H locs ls hP hS hv) (fun h => kf h H locs ls hP hS hv)
theorem x_if_ne {g : Cxt} {cc : ByteArray} {own nm : String} {rt : Option FieldType} {rm : Room} (hG : Cx g cc own nm rt rm) {w : Wd} {kc ks pc : Nat} {lv : List (Option Value)} {st : List Value} {x : Int32} {off : Int} (tgt : Nat) (hd : decode cc pc = .ok (.ifCond .ne off, 3)) (ht : (pc : Int) + off = (tgt : Int)) (kt : ¬ x = 0 → X g w kc ks tgt lv st) (kf : x = 0 → X g w kc ks (pc + 3) lv st) : X g w kc ks pc lv (.int x :: st) := by
  obtain ⟨p, l, e, R, s, m, args, below, meth, c, Γ, nL, mc, ms, post, xpost⟩ := g
  obtain ⟨hF, hr, hlk, hE, hsl, rfl, hmc, hms, hout, hnm⟩ := hG
  intro H locs ls hP hS hv
  exact lv_if_ne hF.1 hF.2.1 hd ht (fun h => kt h H locs ls hP hS hv) (fun h => kf h H locs ls hP hS hv)
theorem x_icmp_ne {g : Cxt} {cc : ByteArray} {own nm : String} {rt : Option FieldType} {rm : Room} (hG : Cx g cc own nm rt rm) {w : Wd} {kc ks pc : Nat} {lv : List (Option Value)} {st : List Value} {x y : Int32} {off : Int} (tgt : Nat) (hd : decode cc pc = .ok (.if_icmp .ne off, 3)) (ht : (pc : Int) + off = (tgt : Int)) (kt : ¬ x = y → X g w kc ks tgt lv st) (kf : x = y → X g w kc ks (pc + 3) lv st) : X g w kc ks pc lv (.int y :: .int x :: st) := by
  obtain ⟨p, l, e, R, s, m, args, below, meth, c, Γ, nL, mc, ms, post, xpost⟩ := g
  obtain ⟨hF, hr, hlk, hE, hsl, rfl, hmc, hms, hout, hnm⟩ := hG
  intro H locs ls hP hS hv
  exact lv_icmp_ne hF.1 hF.2.1 hd ht (fun h => kt h H locs ls hP hS hv) (fun h => kf h H locs ls hP hS hv)
theorem x_if_lt {g : Cxt} {cc : ByteArray} {own nm : String} {rt : Option FieldType} {rm : Room} (hG : Cx g cc own nm rt rm) {w : Wd} {kc ks pc : Nat} {lv : List (Option Value)} {st : List Value} {x : Int32} {off : Int} (tgt : Nat) (hd : decode cc pc = .ok (.ifCond .lt off, 3)) (ht : (pc : Int) + off = (tgt : Int)) (kt : x < 0 → X g w kc ks tgt lv st) (kf : ¬ x < 0 → X g w kc ks (pc + 3) lv st) : X g w kc ks pc lv (.int x :: st) := by
  obtain ⟨p, l, e, R, s, m, args, below, meth, c, Γ, nL, mc, ms, post, xpost⟩ := g
  obtain ⟨hF, hr, hlk, hE, hsl, rfl, hmc, hms, hout, hnm⟩ := hG
  intro H locs ls hP hS hv
  exact lv_if_lt hF.1 hF.2.1 hd ht (fun h => kt h H locs ls hP hS hv) (fun h => kf h H locs ls hP hS hv)
theorem x_icmp_lt {g : Cxt} {cc : ByteArray} {own nm : String} {rt : Option FieldType} {rm : Room} (hG : Cx g cc own nm rt rm) {w : Wd} {kc ks pc : Nat} {lv : List (Option Value)} {st : List Value} {x y : Int32} {off : Int} (tgt : Nat) (hd : decode cc pc = .ok (.if_icmp .lt off, 3)) (ht : (pc : Int) + off = (tgt : Int)) (kt : x < y → X g w kc ks tgt lv st) (kf : ¬ x < y → X g w kc ks (pc + 3) lv st) : X g w kc ks pc lv (.int y :: .int x :: st) := by
  obtain ⟨p, l, e, R, s, m, args, below, meth, c, Γ, nL, mc, ms, post, xpost⟩ := g
  obtain ⟨hF, hr, hlk, hE, hsl, rfl, hmc, hms, hout, hnm⟩ := hG
  intro H locs ls hP hS hv
  exact lv_icmp_lt hF.1 hF.2.1 hd ht (fun h => kt h H locs ls hP hS hv) (fun h => kf h H locs ls hP hS hv)
theorem x_if_ge {g : Cxt} {cc : ByteArray} {own nm : String} {rt : Option FieldType} {rm : Room} (hG : Cx g cc own nm rt rm) {w : Wd} {kc ks pc : Nat} {lv : List (Option Value)} {st : List Value} {x : Int32} {off : Int} (tgt : Nat) (hd : decode cc pc = .ok (.ifCond .ge off, 3)) (ht : (pc : Int) + off = (tgt : Int)) (kt : 0 ≤ x → X g w kc ks tgt lv st) (kf : ¬ 0 ≤ x → X g w kc ks (pc + 3) lv st) : X g w kc ks pc lv (.int x :: st) := by
  obtain ⟨p, l, e, R, s, m, args, below, meth, c, Γ, nL, mc, ms, post, xpost⟩ := g
  obtain ⟨hF, hr, hlk, hE, hsl, rfl, hmc, hms, hout, hnm⟩ := hG
  intro H locs ls hP hS hv
  exact lv_if_ge hF.1 hF.2.1 hd ht (fun h => kt h H locs ls hP hS hv) (fun h => kf h H locs ls hP hS hv)
theorem x_icmp_ge {g : Cxt} {cc : ByteArray} {own nm : String} {rt : Option FieldType} {rm : Room} (hG : Cx g cc own nm rt rm) {w : Wd} {kc ks pc : Nat} {lv : List (Option Value)} {st : List Value} {x y : Int32} {off : Int} (tgt : Nat) (hd : decode cc pc = .ok (.if_icmp .ge off, 3)) (ht : (pc : Int) + off = (tgt : Int)) (kt : y ≤ x → X g w kc ks tgt lv st) (kf : ¬ y ≤ x → X g w kc ks (pc + 3) lv st) : X g w kc ks pc lv (.int y :: .int x :: st) := by
  obtain ⟨p, l, e, R, s, m, args, below, meth, c, Γ, nL, mc, ms, post, xpost⟩ := g
  obtain ⟨hF, hr, hlk, hE, hsl, rfl, hmc, hms, hout, hnm⟩ := hG
  intro H locs ls hP hS hv
  exact lv_icmp_ge hF.1 hF.2.1 hd ht (fun h => kt h H locs ls hP hS hv) (fun h => kf h H locs ls hP hS hv)
theorem x_if_gt {g : Cxt} {cc : ByteArray} {own nm : String} {rt : Option FieldType} {rm : Room} (hG : Cx g cc own nm rt rm) {w : Wd} {kc ks pc : Nat} {lv : List (Option Value)} {st : List Value} {x : Int32} {off : Int} (tgt : Nat) (hd : decode cc pc = .ok (.ifCond .gt off, 3)) (ht : (pc : Int) + off = (tgt : Int)) (kt : 0 < x → X g w kc ks tgt lv st) (kf : ¬ 0 < x → X g w kc ks (pc + 3) lv st) : X g w kc ks pc lv (.int x :: st) := by
  obtain ⟨p, l, e, R, s, m, args, below, meth, c, Γ, nL, mc, ms, post, xpost⟩ := g
  obtain ⟨hF, hr, hlk, hE, hsl, rfl, hmc, hms, hout, hnm⟩ := hG
  intro H locs ls hP hS hv
  exact lv_if_gt hF.1 hF.2.1 hd ht (fun h => kt h H locs ls hP hS hv) (fun h => kf h H locs ls hP hS hv)
theorem x_icmp_gt {g : Cxt} {cc : ByteArray} {own nm : String} {rt : Option FieldType} {rm : Room} (hG : Cx g cc own nm rt rm) {w : Wd} {kc ks pc : Nat} {lv : List (Option Value)} {st : List Value} {x y : Int32} {off : Int} (tgt : Nat) (hd : decode cc pc = .ok (.if_icmp .gt off, 3)) (ht : (pc : Int) + off = (tgt : Int)) (kt : y < x → X g w kc ks tgt lv st) (kf : ¬ y < x → X g w kc ks (pc + 3) lv st) : X g w kc ks pc lv (.int y :: .int x :: st) := by
  obtain ⟨p, l, e, R, s, m, args, below, meth, c, Γ, nL, mc, ms, post, xpost⟩ := g
  obtain ⟨hF, hr, hlk, hE, hsl, rfl, hmc, hms, hout, hnm⟩ := hG
  intro H locs ls hP hS hv
  exact lv_icmp_gt hF.1 hF.2.1 hd ht (fun h => kt h H locs ls hP hS hv) (fun h => kf h H locs ls hP hS hv)
theorem x_if_le {g : Cxt} {cc : ByteArray} {own nm : String} {rt : Option FieldType} {rm : Room} (hG : Cx g cc own nm rt rm) {w : Wd} {kc ks pc : Nat} {lv : List (Option Value)} {st : List Value} {x : Int32} {off : Int} (tgt : Nat) (hd : decode cc pc = .ok (.ifCond .le off, 3)) (ht : (pc : Int) + off = (tgt : Int)) (kt : x ≤ 0 → X g w kc ks tgt lv st) (kf : ¬ x ≤ 0 → X g w kc ks (pc + 3) lv st) : X g w kc ks pc lv (.int x :: st) := by
  obtain ⟨p, l, e, R, s, m, args, below, meth, c, Γ, nL, mc, ms, post, xpost⟩ := g
  obtain ⟨hF, hr, hlk, hE, hsl, rfl, hmc, hms, hout, hnm⟩ := hG
  intro H locs ls hP hS hv
  exact lv_if_le hF.1 hF.2.1 hd ht (fun h => kt h H locs ls hP hS hv) (fun h => kf h H locs ls hP hS hv)
theorem x_icmp_le {g : Cxt} {cc : ByteArray} {own nm : String} {rt : Option FieldType} {rm : Room} (hG : Cx g cc own nm rt rm) {w : Wd} {kc ks pc : Nat} {lv : List (Option Value)} {st : List Value} {x y : Int32} {off : Int} (tgt : Nat) (hd : decode cc pc = .ok (.if_icmp .le off, 3)) (ht : (pc : Int) + off = (tgt : Int)) (kt : x ≤ y → X g w kc ks tgt lv st) (kf : ¬ x ≤ y → X g w kc ks (pc + 3) lv st) : X g w kc ks pc lv (.int y :: .int x :: st) := by
  obtain ⟨p, l, e, R, s, m, args, below, meth, c, Γ, nL, mc, ms, post, xpost⟩ := g
  obtain ⟨hF, hr, hlk, hE, hsl, rfl, hmc, hms, hout, hnm⟩ := hG
  intro H locs ls hP hS hv
  exact lv_icmp_le hF.1 hF.2.1 hd ht (fun h => kt h H locs ls hP hS hv) (fun h => kf h H locs ls hP hS hv)
theorem x_acmp_eq {g : Cxt} {cc : ByteArray} {own nm : String} {rt : Option FieldType} {rm : Room} (hG : Cx g cc own nm rt rm) {w : Wd} {kc ks pc : Nat} {lv : List (Option Value)} {st : List Value} {rx ry : Option Nat} {off : Int} (tgt : Nat) (hd : decode cc pc = .ok (.if_acmp .eq off, 3)) (ht : (pc : Int) + off = (tgt : Int)) (kt : rx = ry → X g w kc ks tgt lv st) (kf : ¬ rx = ry → X g w kc ks (pc + 3) lv st) : X g w kc ks pc lv (va_rf ry :: va_rf rx :: st) := by
  obtain ⟨p, l, e, R, s, m, args, below, meth, c, Γ, nL, mc, ms, post, xpost⟩ := g
  obtain ⟨hF, hr, hlk, hE, hsl, rfl, hmc, hms, hout, hnm⟩ := hG
  intro H locs ls hP hS hv
  exact lv_acmp_eq hF.1 hF.2.1 hd ht (fun h => kt h H locs ls hP hS hv) (fun h => kf h H locs ls hP hS hv)
theorem x_acmp_ne {g : Cxt} {cc : ByteArray} {own nm : String} {rt : Option FieldType} {rm : Room} (hG : Cx g cc own nm rt rm) {w : Wd} {kc ks pc : Nat} {lv : List (Option Value)} {st : List Value} {rx ry : Option Nat} {off : Int} (tgt : Nat) (hd : decode cc pc = .ok (.if_acmp .ne off, 3)) (ht : (pc : Int) + off = (tgt : Int)) (kt : ¬ rx = ry → X g w kc ks tgt lv st) (kf : rx = ry → X g w kc ks (pc + 3) lv st) : X g w kc ks pc lv (va_rf ry :: va_rf rx :: st) := by
  obtain ⟨p, l, e, R, s, m, args, below, meth, c, Γ, nL, mc, ms, post, xpost⟩ := g
  obtain ⟨hF, hr, hlk, hE, hsl, rfl, hmc, hms, hout, hnm⟩ := hG
  intro H locs ls hP hS hv
  exact lv_acmp_ne hF.1 hF.2.1 hd ht (fun h => kt h H locs ls hP hS hv) (fun h => kf h H locs ls hP hS hv)
theorem x_ifnull {g : Cxt} {cc : ByteArray} {own nm : String} {rt : Option FieldType} {rm : Room} (hG : Cx g cc own nm rt rm) {w : Wd} {kc ks pc : Nat} {lv : List (Option Value)} {st : List Value} {x : Nat} {off : Int} (hd : decode cc pc = .ok (.ifnull off, 3)) (k : X g w kc ks (pc + 3) lv st) : X g w kc ks pc lv (.ref x :: st) := by
  obtain ⟨p, l, e, R, s, m, args, below, meth, c, Γ, nL, mc, ms, post, xpost⟩ := g
  obtain ⟨hF, hr, hlk, hE, hsl, rfl, hmc, hms, hout, hnm⟩ := hG
  intro H locs ls hP hS hv
  exact lv_ifnull hF.1 hF.2.1 hd (k H locs ls hP hS hv)
theorem x_ifnullN {g : Cxt} {cc : ByteArray} {own nm : String} {rt : Option FieldType} {rm : Room} (hG : Cx g cc own nm rt rm) {w : Wd} {kc ks pc : Nat} {lv : List (Option Value)} {st : List Value} {off : Int} (tgt : Nat) (hd : decode cc pc = .ok (.ifnull off, 3)) (ht : (pc : Int) + off = (tgt : Int)) (k : X g w kc ks tgt lv st) : X g w kc ks pc lv (.null :: st) := by
  obtain ⟨p, l, e, R, s, m, args, below, meth, c, Γ, nL, mc, ms, post, xpost⟩ := g
  obtain ⟨hF, hr, hlk, hE, hsl, rfl, hmc, hms, hout, hnm⟩ := hG
  intro H locs ls hP hS hv
  exact lv_ifnullN hF.1 hF.2.1 hd ht (k H locs ls hP hS hv)
theorem x_ifnonnull {g : Cxt} {cc : ByteArray} {own nm : String} {rt : Option FieldType} {rm : Room} (hG : Cx g cc own nm rt rm) {w : Wd} {kc ks pc : Nat} {lv : List (Option Value)} {st : List Value} {x : Nat} {off : Int} (tgt : Nat) (hd : decode cc pc = .ok (.ifnonnull off, 3)) (ht : (pc : Int) + off = (tgt : Int)) (k : X g w kc ks tgt lv st) : X g w kc ks pc lv (.ref x :: st) := by
  obtain ⟨p, l, e, R, s, m, args, below, meth, c, Γ, nL, mc, ms, post, xpost⟩ := g
  obtain ⟨hF, hr, hlk, hE, hsl, rfl, hmc, hms, hout, hnm⟩ := hG
  intro H locs ls hP hS hv
  exact lv_ifnonnull hF.1 hF.2.1 hd ht (k H locs ls hP hS hv)
theorem x_ifnonnullN {g : Cxt} {cc : ByteArray} {own nm : String} {rt : Option FieldType} {rm : Room} (hG : Cx g cc own nm rt rm) {w : Wd} {kc ks pc : Nat} {lv : List (Option Value)} {st : List Value} {off : Int} (hd : decode cc pc = .ok (.ifnonnull off, 3)) (k : X g w kc ks (pc + 3) lv st) : X g w kc ks pc lv (.null :: st) := by
  obtain ⟨p, l, e, R, s, m, args, below, meth, c, Γ, nL, mc, ms, post, xpost⟩ := g
  obtain ⟨hF, hr, hlk, hE, hsl, rfl, hmc, hms, hout, hnm⟩ := hG
  intro H locs ls hP hS hv
  exact lv_ifnonnullN hF.1 hF.2.1 hd (k H locs ls hP hS hv)
theorem x_tableIn {g : Cxt} {cc : ByteArray} {own nm : String} {rt : Option FieldType} {rm : Room} (hG : Cx g cc own nm rt rm) {w : Wd} {kc ks pc : Nat} {lv : List (Option Value)} {st : List Value} {dflt lo hi : Int} {offs : Array Int} {len : Nat} {x : Int32} {off : Int} (tgt : Nat) (hd : decode cc pc = .ok (.tableswitch dflt lo hi offs, len)) (h1 : ¬ x.toInt < lo) (h2 : ¬ hi < x.toInt) (ho : offs[(x.toInt - lo).toNat]? = some off) (ht : (pc : Int) + off = (tgt : Int)) (k : X g w kc ks tgt lv st) : X g w kc ks pc lv (.int x :: st) := by
  obtain ⟨p, l, e, R, s, m, args, below, meth, c, Γ, nL, mc, ms, post, xpost⟩ := g
  obtain ⟨hF, hr, hlk, hE, hsl, rfl, hmc, hms, hout, hnm⟩ := hG
  intro H locs ls hP hS hv
  exact lv_tableIn hF.1 hF.2.1 hd h1 h2 ho ht (k H locs ls hP hS hv)
theorem x_tableOut {g : Cxt} {cc : ByteArray} {own nm : String} {rt : Option FieldType} {rm : Room} (hG : Cx g cc own nm rt rm) {w : Wd} {kc ks pc : Nat} {lv : List (Option Value)} {st : List Value} {dflt lo hi : Int} {offs : Array Int} {len : Nat} {x : Int32} (tgt : Nat) (hd : decode cc pc = .ok (.tableswitch dflt lo hi offs, len)) (h : x.toInt < lo ∨ hi < x.toInt) (ht : (pc : Int) + dflt = (tgt : Int)) (k : X g w kc ks tgt lv st) : X g w kc ks pc lv (.int x :: st) := by
  obtain ⟨p, l, e, R, s, m, args, below, meth, c, Γ, nL, mc, ms, post, xpost⟩ := g
  obtain ⟨hF, hr, hlk, hE, hsl, rfl, hmc, hms, hout, hnm⟩ := hG
  intro H locs ls hP hS hv
  exact lv_tableOut hF.1 hF.2.1 hd h ht (k H locs ls hP hS hv)
theorem x_lookup {g : Cxt} {cc : ByteArray} {own nm : String} {rt : Option FieldType} {rm : Room} (hG : Cx g cc own nm rt rm) {w : Wd} {kc ks pc : Nat} {lv : List (Option Value)} {st : List Value} {dflt : Int} {ps : Array (Int × Int)} {len : Nat} {x : Int32} {off : Int} (tgt : Nat) (hd : decode cc pc = .ok (.lookupswitch dflt ps, len)) (hp : (ps.toList.zip (ps.toList.drop 1)).all (fun (a, next) => a.1 < next.1) = true) (ho : Op.lookupswitch.offset ps.toList dflt x.toInt = off) (ht : (pc : Int) + off = (tgt : Int)) (k : X g w kc ks tgt lv st) : X g w kc ks pc lv (.int x :: st) := by
  obtain ⟨p, l, e, R, s, m, args, below, meth, c, Γ, nL, mc, ms, post, xpost⟩ := g
  obtain ⟨hF, hr, hlk, hE, hsl, rfl, hmc, hms, hout, hnm⟩ := hG
  intro H locs ls hP hS hv
  exact lv_lookup hF.1 hF.2.1 hd hp ho ht (k H locs ls hP hS hv)
theorem x_iload {g : Cxt} {cc : ByteArray} {own nm : String} {rt : Option FieldType} {rm : Room} (hG : Cx g cc own nm rt rm) {w : Wd} {kc ks pc : Nat} {lv : List (Option Value)} {st : List Value} {x : Int32} {i : Nat} (hd : decode cc pc = .ok (.iload i, 2)) (hl : lv[i]? = some (some (.int x))) (k : X g w kc ks (pc + 2) lv (.int x :: st)) : X g w kc ks pc lv st := by
  obtain ⟨p, l, e, R, s, m, args, below, meth, c, Γ, nL, mc, ms, post, xpost⟩ := g
  obtain ⟨hF, hr, hlk, hE, hsl, rfl, hmc, hms, hout, hnm⟩ := hG
  intro H locs ls hP hS hv
  exact lv_iload hF.1 hF.2.1 hd (lh_at hv hl) (k H locs ls hP hS hv)
theorem x_iload_n {g : Cxt} {cc : ByteArray} {own nm : String} {rt : Option FieldType} {rm : Room} (hG : Cx g cc own nm rt rm) {w : Wd} {kc ks pc : Nat} {lv : List (Option Value)} {st : List Value} {x : Int32} {j : Fin 4} (i : Nat) (hd : decode cc pc = .ok (.iload_n j, 1)) (hi : (j : Nat) = i) (hl : lv[i]? = some (some (.int x))) (k : X g w kc ks (pc + 1) lv (.int x :: st)) : X g w kc ks pc lv st := by
  obtain ⟨p, l, e, R, s, m, args, below, meth, c, Γ, nL, mc, ms, post, xpost⟩ := g
  obtain ⟨hF, hr, hlk, hE, hsl, rfl, hmc, hms, hout, hnm⟩ := hG
  intro H locs ls hP hS hv
  exact lv_iload_n hF.1 hF.2.1 hd hi (lh_at hv hl) (k H locs ls hP hS hv)
theorem x_istore {g : Cxt} {cc : ByteArray} {own nm : String} {rt : Option FieldType} {rm : Room} (hG : Cx g cc own nm rt rm) {w : Wd} {kc ks pc : Nat} {lv : List (Option Value)} {st : List Value} {x : Int32} {i : Nat} {lv2 : List (Option Value)} (hd : decode cc pc = .ok (.istore i, 2)) (hn : i < lv.length) (hok : okS lv i = true) (hl : (lv.set i (some (.int x))) = lv2) (k : X g w kc ks (pc + 2) lv2 st) : X g w kc ks pc lv (.int x :: st) := by
  obtain ⟨p, l, e, R, s, m, args, below, meth, c, Γ, nL, mc, ms, post, xpost⟩ := g
  obtain ⟨hF, hr, hlk, hE, hsl, rfl, hmc, hms, hout, hnm⟩ := hG
  intro H locs ls hP hS hv
  subst hl
  exact lv_istore hF.1 hF.2.1 hd hv.1 (by rw [← hv.2]; exact hn) rfl (fun ls2 h2 => k H locs ls2 hP hS (lh_set hok hv.2 h2))
theorem x_istore_n {g : Cxt} {cc : ByteArray} {own nm : String} {rt : Option FieldType} {rm : Room} (hG : Cx g cc own nm rt rm) {w : Wd} {kc ks pc : Nat} {lv : List (Option Value)} {st : List Value} {x : Int32} {j : Fin 4} (i : Nat) {lv2 : List (Option Value)} (hd : decode cc pc = .ok (.istore_n j, 1)) (hi : (j : Nat) = i) (hn : i < lv.length) (hok : okS lv i = true) (hl : (lv.set i (some (.int x))) = lv2) (k : X g w kc ks (pc + 1) lv2 st) : X g w kc ks pc lv (.int x :: st) := by
  obtain ⟨p, l, e, R, s, m, args, below, meth, c, Γ, nL, mc, ms, post, xpost⟩ := g
  obtain ⟨hF, hr, hlk, hE, hsl, rfl, hmc, hms, hout, hnm⟩ := hG
  intro H locs ls hP hS hv
  subst hl
  exact lv_istore_n hF.1 hF.2.1 hd hi hv.1 (by rw [← hv.2]; exact hn) rfl (fun ls2 h2 => k H locs ls2 hP hS (lh_set hok hv.2 h2))
theorem x_aload {g : Cxt} {cc : ByteArray} {own nm : String} {rt : Option FieldType} {rm : Room} (hG : Cx g cc own nm rt rm) {w : Wd} {kc ks pc : Nat} {lv : List (Option Value)} {st : List Value} {x : Nat} {i : Nat} (hd : decode cc pc = .ok (.aload i, 2)) (hl : lv[i]? = some (some (.ref x))) (k : X g w kc ks (pc + 2) lv (.ref x :: st)) : X g w kc ks pc lv st := by
  obtain ⟨p, l, e, R, s, m, args, below, meth, c, Γ, nL, mc, ms, post, xpost⟩ := g
  obtain ⟨hF, hr, hlk, hE, hsl, rfl, hmc, hms, hout, hnm⟩ := hG
  intro H locs ls hP hS hv
  exact lv_aload hF.1 hF.2.1 hd (lh_at hv hl) (k H locs ls hP hS hv)
theorem x_aload_n {g : Cxt} {cc : ByteArray} {own nm : String} {rt : Option FieldType} {rm : Room} (hG : Cx g cc own nm rt rm) {w : Wd} {kc ks pc : Nat} {lv : List (Option Value)} {st : List Value} {x : Nat} {j : Fin 4} (i : Nat) (hd : decode cc pc = .ok (.aload_n j, 1)) (hi : (j : Nat) = i) (hl : lv[i]? = some (some (.ref x))) (k : X g w kc ks (pc + 1) lv (.ref x :: st)) : X g w kc ks pc lv st := by
  obtain ⟨p, l, e, R, s, m, args, below, meth, c, Γ, nL, mc, ms, post, xpost⟩ := g
  obtain ⟨hF, hr, hlk, hE, hsl, rfl, hmc, hms, hout, hnm⟩ := hG
  intro H locs ls hP hS hv
  exact lv_aload_n hF.1 hF.2.1 hd hi (lh_at hv hl) (k H locs ls hP hS hv)
theorem x_astore {g : Cxt} {cc : ByteArray} {own nm : String} {rt : Option FieldType} {rm : Room} (hG : Cx g cc own nm rt rm) {w : Wd} {kc ks pc : Nat} {lv : List (Option Value)} {st : List Value} {x : Nat} {i : Nat} {lv2 : List (Option Value)} (hd : decode cc pc = .ok (.astore i, 2)) (hn : i < lv.length) (hok : okS lv i = true) (hl : (lv.set i (some (.ref x))) = lv2) (k : X g w kc ks (pc + 2) lv2 st) : X g w kc ks pc lv (.ref x :: st) := by
  obtain ⟨p, l, e, R, s, m, args, below, meth, c, Γ, nL, mc, ms, post, xpost⟩ := g
  obtain ⟨hF, hr, hlk, hE, hsl, rfl, hmc, hms, hout, hnm⟩ := hG
  intro H locs ls hP hS hv
  subst hl
  exact lv_astore hF.1 hF.2.1 hd hv.1 (by rw [← hv.2]; exact hn) rfl (fun ls2 h2 => k H locs ls2 hP hS (lh_set hok hv.2 h2))
theorem x_astore_n {g : Cxt} {cc : ByteArray} {own nm : String} {rt : Option FieldType} {rm : Room} (hG : Cx g cc own nm rt rm) {w : Wd} {kc ks pc : Nat} {lv : List (Option Value)} {st : List Value} {x : Nat} {j : Fin 4} (i : Nat) {lv2 : List (Option Value)} (hd : decode cc pc = .ok (.astore_n j, 1)) (hi : (j : Nat) = i) (hn : i < lv.length) (hok : okS lv i = true) (hl : (lv.set i (some (.ref x))) = lv2) (k : X g w kc ks (pc + 1) lv2 st) : X g w kc ks pc lv (.ref x :: st) := by
  obtain ⟨p, l, e, R, s, m, args, below, meth, c, Γ, nL, mc, ms, post, xpost⟩ := g
  obtain ⟨hF, hr, hlk, hE, hsl, rfl, hmc, hms, hout, hnm⟩ := hG
  intro H locs ls hP hS hv
  subst hl
  exact lv_astore_n hF.1 hF.2.1 hd hi hv.1 (by rw [← hv.2]; exact hn) rfl (fun ls2 h2 => k H locs ls2 hP hS (lh_set hok hv.2 h2))
theorem x_lload {g : Cxt} {cc : ByteArray} {own nm : String} {rt : Option FieldType} {rm : Room} (hG : Cx g cc own nm rt rm) {w : Wd} {kc ks pc : Nat} {lv : List (Option Value)} {st : List Value} {x : Int64} {i : Nat} (hd : decode cc pc = .ok (.lload i, 2)) (hl : lv[i]? = some (some (.long x))) (k : X g w kc ks (pc + 2) lv (.long x :: st)) : X g w kc ks pc lv st := by
  obtain ⟨p, l, e, R, s, m, args, below, meth, c, Γ, nL, mc, ms, post, xpost⟩ := g
  obtain ⟨hF, hr, hlk, hE, hsl, rfl, hmc, hms, hout, hnm⟩ := hG
  intro H locs ls hP hS hv
  exact lv_lload hF.1 hF.2.1 hd (lh_at hv hl) (k H locs ls hP hS hv)
theorem x_lload_n {g : Cxt} {cc : ByteArray} {own nm : String} {rt : Option FieldType} {rm : Room} (hG : Cx g cc own nm rt rm) {w : Wd} {kc ks pc : Nat} {lv : List (Option Value)} {st : List Value} {x : Int64} {j : Fin 4} (i : Nat) (hd : decode cc pc = .ok (.lload_n j, 1)) (hi : (j : Nat) = i) (hl : lv[i]? = some (some (.long x))) (k : X g w kc ks (pc + 1) lv (.long x :: st)) : X g w kc ks pc lv st := by
  obtain ⟨p, l, e, R, s, m, args, below, meth, c, Γ, nL, mc, ms, post, xpost⟩ := g
  obtain ⟨hF, hr, hlk, hE, hsl, rfl, hmc, hms, hout, hnm⟩ := hG
  intro H locs ls hP hS hv
  exact lv_lload_n hF.1 hF.2.1 hd hi (lh_at hv hl) (k H locs ls hP hS hv)
theorem x_lstore {g : Cxt} {cc : ByteArray} {own nm : String} {rt : Option FieldType} {rm : Room} (hG : Cx g cc own nm rt rm) {w : Wd} {kc ks pc : Nat} {lv : List (Option Value)} {st : List Value} {x : Int64} {i : Nat} {lv2 : List (Option Value)} (hd : decode cc pc = .ok (.lstore i, 2)) (hn : i + 1 < lv.length) (hok : okS lv i = true) (hl : ((lv.set i (some (.long x))).set (i + 1) none) = lv2) (k : X g w kc ks (pc + 2) lv2 st) : X g w kc ks pc lv (.long x :: st) := by
  obtain ⟨p, l, e, R, s, m, args, below, meth, c, Γ, nL, mc, ms, post, xpost⟩ := g
  obtain ⟨hF, hr, hlk, hE, hsl, rfl, hmc, hms, hout, hnm⟩ := hG
  intro H locs ls hP hS hv
  subst hl
  exact lv_lstore hF.1 hF.2.1 hd hv.1 (by rw [← hv.2]; exact hn) rfl (fun ls2 h2 => k H locs ls2 hP hS (lh_set2 hok hv.2 h2))
theorem x_lstore_n {g : Cxt} {cc : ByteArray} {own nm : String} {rt : Option FieldType} {rm : Room} (hG : Cx g cc own nm rt rm) {w : Wd} {kc ks pc : Nat} {lv : List (Option Value)} {st : List Value} {x : Int64} {j : Fin 4} (i : Nat) {lv2 : List (Option Value)} (hd : decode cc pc = .ok (.lstore_n j, 1)) (hi : (j : Nat) = i) (hn : i + 1 < lv.length) (hok : okS lv i = true) (hl : ((lv.set i (some (.long x))).set (i + 1) none) = lv2) (k : X g w kc ks (pc + 1) lv2 st) : X g w kc ks pc lv (.long x :: st) := by
  obtain ⟨p, l, e, R, s, m, args, below, meth, c, Γ, nL, mc, ms, post, xpost⟩ := g
  obtain ⟨hF, hr, hlk, hE, hsl, rfl, hmc, hms, hout, hnm⟩ := hG
  intro H locs ls hP hS hv
  subst hl
  exact lv_lstore_n hF.1 hF.2.1 hd hi hv.1 (by rw [← hv.2]; exact hn) rfl (fun ls2 h2 => k H locs ls2 hP hS (lh_set2 hok hv.2 h2))
theorem x_dload {g : Cxt} {cc : ByteArray} {own nm : String} {rt : Option FieldType} {rm : Room} (hG : Cx g cc own nm rt rm) {w : Wd} {kc ks pc : Nat} {lv : List (Option Value)} {st : List Value} {x : UInt64} {i : Nat} (hd : decode cc pc = .ok (.dload i, 2)) (hl : lv[i]? = some (some (.double x))) (k : X g w kc ks (pc + 2) lv (.double x :: st)) : X g w kc ks pc lv st := by
  obtain ⟨p, l, e, R, s, m, args, below, meth, c, Γ, nL, mc, ms, post, xpost⟩ := g
  obtain ⟨hF, hr, hlk, hE, hsl, rfl, hmc, hms, hout, hnm⟩ := hG
  intro H locs ls hP hS hv
  exact lv_dload hF.1 hF.2.1 hd (lh_at hv hl) (k H locs ls hP hS hv)
theorem x_dstore {g : Cxt} {cc : ByteArray} {own nm : String} {rt : Option FieldType} {rm : Room} (hG : Cx g cc own nm rt rm) {w : Wd} {kc ks pc : Nat} {lv : List (Option Value)} {st : List Value} {x : UInt64} {i : Nat} {lv2 : List (Option Value)} (hd : decode cc pc = .ok (.dstore i, 2)) (hn : i + 1 < lv.length) (hok : okS lv i = true) (hl : ((lv.set i (some (.double x))).set (i + 1) none) = lv2) (k : X g w kc ks (pc + 2) lv2 st) : X g w kc ks pc lv (.double x :: st) := by
  obtain ⟨p, l, e, R, s, m, args, below, meth, c, Γ, nL, mc, ms, post, xpost⟩ := g
  obtain ⟨hF, hr, hlk, hE, hsl, rfl, hmc, hms, hout, hnm⟩ := hG
  intro H locs ls hP hS hv
  subst hl
  exact lv_dstore hF.1 hF.2.1 hd hv.1 (by rw [← hv.2]; exact hn) rfl (fun ls2 h2 => k H locs ls2 hP hS (lh_set2 hok hv.2 h2))
theorem x_aloadN {g : Cxt} {cc : ByteArray} {own nm : String} {rt : Option FieldType} {rm : Room} (hG : Cx g cc own nm rt rm) {w : Wd} {kc ks pc : Nat} {lv : List (Option Value)} {st : List Value} {i : Nat} (hd : decode cc pc = .ok (.aload i, 2)) (hl : lv[i]? = some (some .null)) (k : X g w kc ks (pc + 2) lv (.null :: st)) : X g w kc ks pc lv st := by
  obtain ⟨p, l, e, R, s, m, args, below, meth, c, Γ, nL, mc, ms, post, xpost⟩ := g
  obtain ⟨hF, hr, hlk, hE, hsl, rfl, hmc, hms, hout, hnm⟩ := hG
  intro H locs ls hP hS hv
  exact lv_aloadN hF.1 hF.2.1 hd (lh_at hv hl) (k H locs ls hP hS hv)
theorem x_aload_nN {g : Cxt} {cc : ByteArray} {own nm : String} {rt : Option FieldType} {rm : Room} (hG : Cx g cc own nm rt rm) {w : Wd} {kc ks pc : Nat} {lv : List (Option Value)} {st : List Value} {j : Fin 4} (i : Nat) (hd : decode cc pc = .ok (.aload_n j, 1)) (hi : (j : Nat) = i) (hl : lv[i]? = some (some .null)) (k : X g w kc ks (pc + 1) lv (.null :: st)) : X g w kc ks pc lv st := by
  obtain ⟨p, l, e, R, s, m, args, below, meth, c, Γ, nL, mc, ms, post, xpost⟩ := g
  obtain ⟨hF, hr, hlk, hE, hsl, rfl, hmc, hms, hout, hnm⟩ := hG
  intro H locs ls hP hS hv
  exact lv_aload_nN hF.1 hF.2.1 hd hi (lh_at hv hl) (k H locs ls hP hS hv)
theorem x_astore_nN {g : Cxt} {cc : ByteArray} {own nm : String} {rt : Option FieldType} {rm : Room} (hG : Cx g cc own nm rt rm) {w : Wd} {kc ks pc : Nat} {lv : List (Option Value)} {st : List Value} {j : Fin 4} (i : Nat) {lv2 : List (Option Value)} (hd : decode cc pc = .ok (.astore_n j, 1)) (hi : (j : Nat) = i) (hn : i < lv.length) (hok : okS lv i = true) (hl : (lv.set i (some .null)) = lv2) (k : X g w kc ks (pc + 1) lv2 st) : X g w kc ks pc lv (.null :: st) := by
  obtain ⟨p, l, e, R, s, m, args, below, meth, c, Γ, nL, mc, ms, post, xpost⟩ := g
  obtain ⟨hF, hr, hlk, hE, hsl, rfl, hmc, hms, hout, hnm⟩ := hG
  intro H locs ls hP hS hv
  subst hl
  exact lv_astore_nN hF.1 hF.2.1 hd hi hv.1 (by rw [← hv.2]; exact hn) rfl (fun ls2 h2 => k H locs ls2 hP hS (lh_set hok hv.2 h2))
theorem x_iinc {g : Cxt} {cc : ByteArray} {own nm : String} {rt : Option FieldType} {rm : Room} (hG : Cx g cc own nm rt rm) {w : Wd} {kc ks pc : Nat} {lv : List (Option Value)} {st : List Value} {i : Nat} {n : Int} {x : Int32} (v : Int32) {lv2 : List (Option Value)} (hd : decode cc pc = .ok (.iinc i n, 3)) (hx : lv[i]? = some (some (.int x))) (hn : i < lv.length) (hok : okS lv i = true) (he : x + Int32.ofInt n = v) (hl : lv.set i (some (.int v)) = lv2) (k : X g w kc ks (pc + 3) lv2 st) : X g w kc ks pc lv st := by
  obtain ⟨p, l, e, R, s, m, args, below, meth, c, Γ, nL, mc, ms, post, xpost⟩ := g
  obtain ⟨hF, hr, hlk, hE, hsl, rfl, hmc, hms, hout, hnm⟩ := hG
  intro H locs ls hP hS hv
  subst hl
  have hm : (i, Value.int x) ∈ den lv 0 := (den_mem lv 0 i _).mpr ⟨Nat.zero_le _, hx⟩
  obtain ⟨q, hq⟩ := List.getElem?_of_mem hm
  exact lv_iinc hF.1 hF.2.1 hd hv.1 hq he (by rw [← hv.2]; exact hn) rfl (fun ls2 h2 => k H locs ls2 hP hS (lh_set hok hv.2 h2))
theorem x_ireturn {g : Cxt} {cc : ByteArray} {own nm : String} {rt : Option FieldType} {rm : Room} (hG : Cx g cc own nm rt rm) {w : Wd} {kc ks pc : Nat} {lv : List (Option Value)} {st : List Value} {v : Int32} {ty : FieldType} (hd : decode cc pc = .ok (.ireturn, 1)) (hrt : rt = some ty) (hn : narrow ty (.int v) = .int v) (hkc : kc ≤ gM g) (hks : ks ≤ gN g) (k : gP g (some (.int v)) w) : X g w kc ks pc lv [.int v] := by
  obtain ⟨p, l, e, R, s, m, args, below, meth, c, Γ, nL, mc, ms, post, xpost⟩ := g
  obtain ⟨hF, hr, hlk, hE, hsl, rfl, hmc, hms, hout, hnm⟩ := hG
  intro H locs ls hP hS hv
  exact W.widen hkc hks (vx_ret (W.zret hF.1 hF.2.1 (hr.trans hrt) hn (fun t ht hW => ⟨⟨_, w, rfl, by rw [ht]; exact hP, k⟩, hS.F ht⟩) hS.2.2 hd hlk))
theorem x_lreturn {g : Cxt} {cc : ByteArray} {own nm : String} {rt : Option FieldType} {rm : Room} (hG : Cx g cc own nm rt rm) {w : Wd} {kc ks pc : Nat} {lv : List (Option Value)} {st : List Value} {v : Int64} (hd : decode cc pc = .ok (.lreturn, 1)) (hrt : rt = some .long)  (hkc : kc ≤ gM g) (hks : ks ≤ gN g) (k : gP g (some (.long v)) w) : X g w kc ks pc lv [.long v] := by
  obtain ⟨p, l, e, R, s, m, args, below, meth, c, Γ, nL, mc, ms, post, xpost⟩ := g
  obtain ⟨hF, hr, hlk, hE, hsl, rfl, hmc, hms, hout, hnm⟩ := hG
  intro H locs ls hP hS hv
  exact W.widen hkc hks (vx_ret (W.lret hF.1 hF.2.1 (hr.trans hrt) (fun t ht hW => ⟨⟨_, w, rfl, by rw [ht]; exact hP, k⟩, hS.F ht⟩) hS.2.2 hd hlk))
theorem x_dreturn {g : Cxt} {cc : ByteArray} {own nm : String} {rt : Option FieldType} {rm : Room} (hG : Cx g cc own nm rt rm) {w : Wd} {kc ks pc : Nat} {lv : List (Option Value)} {st : List Value} {v : UInt64} (hd : decode cc pc = .ok (.dreturn, 1)) (hrt : rt = some .double)  (hkc : kc ≤ gM g) (hks : ks ≤ gN g) (k : gP g (some (.double v)) w) : X g w kc ks pc lv [.double v] := by
  obtain ⟨p, l, e, R, s, m, args, below, meth, c, Γ, nL, mc, ms, post, xpost⟩ := g
  obtain ⟨hF, hr, hlk, hE, hsl, rfl, hmc, hms, hout, hnm⟩ := hG
  intro H locs ls hP hS hv
  exact W.widen hkc hks (vx_ret (W.dret hF.1 hF.2.1 (hr.trans hrt) (fun t ht hW => ⟨⟨_, w, rfl, by rw [ht]; exact hP, k⟩, hS.F ht⟩) hS.2.2 hd hlk))
theorem x_areturn {g : Cxt} {cc : ByteArray} {own nm : String} {rt : Option FieldType} {rm : Room} (hG : Cx g cc own nm rt rm) {w : Wd} {kc ks pc : Nat} {lv : List (Option Value)} {st : List Value} {v : Nat} {ty : FieldType} (hd : decode cc pc = .ok (.areturn, 1)) (hrt : rt = some ty) (hty : (∃ n, ty = .object n) ∨ ∃ t, ty = .array t) (hkc : kc ≤ gM g) (hks : ks ≤ gN g) (k : gP g (some (.ref v)) w) : X g w kc ks pc lv [.ref v] := by
  obtain ⟨p, l, e, R, s, m, args, below, meth, c, Γ, nL, mc, ms, post, xpost⟩ := g
  obtain ⟨hF, hr, hlk, hE, hsl, rfl, hmc, hms, hout, hnm⟩ := hG
  intro H locs ls hP hS hv
  exact W.widen hkc hks (vx_ret (W.aret hF.1 hF.2.1 (hr.trans hrt) hty (Or.inr ⟨_, rfl⟩) (fun t ht hW => ⟨⟨_, w, rfl, by rw [ht]; exact hP, k⟩, hS.F ht⟩) hS.2.2 hd hlk))
theorem x_areturnN {g : Cxt} {cc : ByteArray} {own nm : String} {rt : Option FieldType} {rm : Room} (hG : Cx g cc own nm rt rm) {w : Wd} {kc ks pc : Nat} {lv : List (Option Value)} {st : List Value} {ty : FieldType} (hd : decode cc pc = .ok (.areturn, 1)) (hrt : rt = some ty) (hty : (∃ n, ty = .object n) ∨ ∃ t, ty = .array t) (hkc : kc ≤ gM g) (hks : ks ≤ gN g) (k : gP g (some .null) w) : X g w kc ks pc lv [.null] := by
  obtain ⟨p, l, e, R, s, m, args, below, meth, c, Γ, nL, mc, ms, post, xpost⟩ := g
  obtain ⟨hF, hr, hlk, hE, hsl, rfl, hmc, hms, hout, hnm⟩ := hG
  intro H locs ls hP hS hv
  exact W.widen hkc hks (vx_ret (W.aret hF.1 hF.2.1 (hr.trans hrt) hty (Or.inl rfl) (fun t ht hW => ⟨⟨_, w, rfl, by rw [ht]; exact hP, k⟩, hS.F ht⟩) hS.2.2 hd hlk))
theorem x_return {g : Cxt} {cc : ByteArray} {own nm : String} {rt : Option FieldType} {rm : Room} (hG : Cx g cc own nm rt rm) {w : Wd} {kc ks pc : Nat} {lv : List (Option Value)} {st : List Value}  (hd : decode cc pc = .ok (.return_, 1)) (hrt : rt = none)  (hkc : kc ≤ gM g) (hks : ks ≤ gN g) (k : gP g none w) : X g w kc ks pc lv [] := by
  obtain ⟨p, l, e, R, s, m, args, below, meth, c, Γ, nL, mc, ms, post, xpost⟩ := g
  obtain ⟨hF, hr, hlk, hE, hsl, rfl, hmc, hms, hout, hnm⟩ := hG
  intro H locs ls hP hS hv
  exact W.widen hkc hks (vx_ret (W.vret hF.1 hF.2.1 (hr.trans hrt) (fun t ht hW => ⟨⟨_, w, rfl, by rw [ht]; exact hP, k⟩, hS.F ht⟩) hS.2.2 hd hlk))
end
section
/-! rows over the heap -/
/-- the field k of class number ci, under the pool entry idx of own -/
def FL (own : String) (idx ci k : Nat) : Prop := ∃ (C : String) (T : u_T) (N : Nat) (ref : String), vwCl[ci]? = some (C, T, N) ∧ k < N ∧ (∀ w ∈ u_ws C T N, w ∈ TB) ∧
  (Cond.fieldLink own idx ref (T k).2.1 (T k).2.2.1 ∈ TB ∨ ∃ host : String, Cond.fieldLinkNest own idx ref (T k).2.1 (T k).2.2.1 host ∈ NB) ∧ ((T k).1 = ref ∨ Cond.sameField ref (T k).1 (T k).2.1 (T k).2.2.1 ∈ TB)
/-- the same, without a nest -/
def FLP (own : String) (idx ci k : Nat) : Prop := ∃ (C : String) (T : u_T) (N : Nat), vwCl[ci]? = some (C, T, N) ∧ k < N ∧ (∀ w ∈ u_ws C T N, w ∈ TB) ∧ Cond.fieldLink own idx own (T k).2.1 (T k).2.2.1 ∈ TB ∧ (T k).1 = own
/-- what a class's table says besides, for stores -/
def FW (ci : Nat) : Prop := ∃ (C : String) (T : u_T) (N : Nat) (ty : Nat → FieldType), vwCl[ci]? = some (C, T, N) ∧ (∀ k, k < N → parseFieldDescriptor (T k).2.2.1 = some (ty k)) ∧ (∀ a, a < N → ∀ b, b < N → a ≠ b → (T a).2.1 ≠ (T b).2.1)
def FT (ci k : Nat) (fin : Bool) (ty : FieldType) : Prop := ∃ (C : String) (T : u_T) (N : Nat), vwCl[ci]? = some (C, T, N) ∧ (T k).2.2.2 = fin ∧ parseFieldDescriptor (T k).2.2.1 = some ty
/-- the class number ci is made by the pool entry idx of own -/
def NW (own : String) (idx ci N : Nat) (fs : List Value) : Prop := ∃ (C : String) (T : u_T) (ty : Nat → FieldType), vwCl[ci]? = some (C, T, N) ∧ (∀ w ∈ u_ws C T N, w ∈ TB) ∧ (∀ k, k < N → parseFieldDescriptor (T k).2.2.1 = some (ty k)) ∧
  Cond.classLink own idx C ∈ TB ∧ Cond.instantiable C N ∈ TB ∧ Cond.initialized C ∈ TB ∧ (∀ j, j < N → defaultValue (ty j) = vp_V fs j)
theorem x_getf {g : Cxt} {cc : ByteArray} {own nm : String} {rt : Option FieldType} {rm : Room} (hG : Cx g cc own nm rt rm) {w : Wd} {kc ks pc : Nat} {lv : List (Option Value)} {st : List Value} {idx ci i a : Nat} {t : Tg} {fs : List Value} {v : Value} (hL : FL own idx ci i) (he : w a = some (t, .inr (ci, fs))) (hx : fs[i]? = some v) (hd : decode cc pc = .ok (.getfield idx, 3)) (k : X g w kc ks (pc + 3) lv (v :: st)) : X g w kc ks pc lv (.ref a :: st) := by
  obtain ⟨p, l, e, R, s, m, args, below, meth, c, Γ, nL, mc, ms, post, xpost⟩ := g
  obtain ⟨hF, hr, hlk, hE, hsl, rfl, hmc, hms, hout, hnm⟩ := hG
  intro H locs ls hP hS hv
  obtain ⟨C, T, N, ref, hc, hi, hin, hlink, hsame⟩ := hL
  have hsm : ∀ x, s.fieldFound? (T i).1 (T i).2.1 (T i).2.2.1 = some x → s.fieldFound? ref (T i).2.1 (T i).2.2.1 = some x := by
    rcases hsame with h | h
    · intro x hx
      rw [← h]
      exact hx
    · exact u_same (hF.2.2.2.2 _ h)
  rcases hlink with hlink | ⟨host, hlink⟩
  · exact va_get hF.1 hF.2.1 hF.2.2.2.2 hin hF.2.2.2.1 hE.1 (hP.one he) 0 rfl hc i hi (hF.2.2.2.2 _ hlink) hsm hx hd (k H locs ls hP hS hv)
  · exact va_getN hF.1 hF.2.1 hF.2.2.2.2 hin hF.2.2.2.1 hE.1 (hP.one he) 0 rfl hc i hi (va_Nw.use (NB_ok _ hlink) (hE.2.1 _ hlink)) hsm hx hd (k H locs ls hP hS hv)
theorem x_putf {g : Cxt} {cc : ByteArray} {own nm : String} {rt : Option FieldType} {rm : Room} (hG : Cx g cc own nm rt rm) {w : Wd} {kc ks pc : Nat} {lv : List (Option Value)} {st : List Value} {idx ci i a : Nat} {t : Tg} {fs fs2 : List Value} {v : Value} {ty : FieldType} (hL : FL own idx ci i) (hW : FW ci) (hT : FT ci i false ty) (he : w a = some (t, .inr (ci, fs))) (hlt : i < fs.length) (hn : narrow ty v = v) (hfit : fits ty v = true) (hfs : fs.set i v = fs2) (hd : decode cc pc = .ok (.putfield idx, 3))  (k : X g (wup w a (t, .inr (ci, fs2))) kc ks (pc + 3) lv st) : X g w kc ks pc lv (v :: .ref a :: st) := by
  obtain ⟨p, l, e, R, s, m, args, below, meth, c, Γ, nL, mc, ms, post, xpost⟩ := g
  obtain ⟨hF, hr, hlk, hE, hsl, rfl, hmc, hms, hout, hnm⟩ := hG
  intro H locs ls hP hS hv
  obtain ⟨C, T, N, ref, hc, hi, hin, hlink, hsame⟩ := hL
  have hsm : ∀ x, s.fieldFound? (T i).1 (T i).2.1 (T i).2.2.1 = some x → s.fieldFound? ref (T i).2.1 (T i).2.2.1 = some x := by
    rcases hsame with h | h
    · intro x hx
      rw [← h]
      exact hx
    · exact u_same (hF.2.2.2.2 _ h)
  obtain ⟨C2, T2, N2, ty0, hc2, hty, hnm2⟩ := hW
  cases hc.symm.trans hc2
  obtain ⟨C3, T3, N3, hc3, hfin, hd3⟩ := hT
  cases hc.symm.trans hc3
  subst hfs
  have hap := va_apart (own := own) hF.2.2.2.2 hin ty0 hty hnm2 hE.1 hc
  obtain ⟨r, h1, cell, q1, q2, q3, q4⟩ := (hP a _ he).2
  cases h1.symm.trans hc
  obtain ⟨hS0, hfc, kC, hkC, hkind⟩ := hE.1.1 ci _ hc
  obtain ⟨cf, kf, fi, f, hi2, hsl2⟩ := hS0 i hi
  have hlay := hF.2.2.2.2 _ (hin _ (u_in_lay hi))
  unfold u_lay at hlay
  rw [if_neg (by rw [hfin]; decide)] at hlay
  have hst := (u_facts hfc hkC (u_lays hF.2.2.2.2 hin hi) hi2).1
  have h6 := u_store hfc hkC hkind hlay hi2 hd3 hn hfit
  rcases hlink with hlink | ⟨host, hlink⟩
  · refine W.putK hF.1 hF.2.1 (f := f) ⟨hF.2.2.2.1, hF.2.2.2.2 _ hlink, ⟨_, _, _, hsm _ hi2⟩, hst⟩ (by rw [q2]; exact h6) q1 q3 (by rw [hsl2]; exact k2_hasslot (q4 i hi)) rfl rfl hd fun H' e1 e2 e3 => ?_
    rw [hsl2] at e1 ⊢
    exact k H' _ ls (hP.put he ⟨_, hc, t_OB.to (V := updV (vp_V fs) i v) ⟨_, e1, q2, q3, t_set q4 hap hi v⟩ (fun j _ => vp_updV_set hlt v j)⟩ e3) (hS.put e2 e3 (hP a _ he).1) hv
  · refine va_WputK hF.1 hF.2.1 (f := f) hF.2.2.2.1 (va_Nw.use (NB_ok _ hlink) (hE.2.1 _ hlink)) (hsm _ hi2) hst (by rw [q2]; exact h6) q1 q3 (by rw [hsl2]; exact k2_hasslot (q4 i hi)) rfl rfl hd fun H' e1 e2 e3 => ?_
    rw [hsl2] at e1 ⊢
    exact k H' _ ls (hP.put he ⟨_, hc, t_OB.to (V := updV (vp_V fs) i v) ⟨_, e1, q2, q3, t_set q4 hap hi v⟩ (fun j _ => vp_updV_set hlt v j)⟩ e3) (hS.put e2 e3 (hP a _ he).1) hv
theorem x_putfF {g : Cxt} {cc : ByteArray} {own nm : String} {rt : Option FieldType} {rm : Room} (hG : Cx g cc own nm rt rm) {w : Wd} {kc ks pc : Nat} {lv : List (Option Value)} {st : List Value} {idx ci i a : Nat} {t : Tg} {fs fs2 : List Value} {v : Value} {ty : FieldType} (hL : FLP own idx ci i) (hW : FW ci) (hT : FT ci i true ty) (he : w a = some (t, .inr (ci, fs))) (hlt : i < fs.length) (hn : narrow ty v = v) (hfit : fits ty v = true) (hfs : fs.set i v = fs2) (hd : decode cc pc = .ok (.putfield idx, 3)) (hnm3 : nm = "<init>") (k : X g (wup w a (t, .inr (ci, fs2))) kc ks (pc + 3) lv st) : X g w kc ks pc lv (v :: .ref a :: st) := by
  obtain ⟨p, l, e, R, s, m, args, below, meth, c, Γ, nL, mc, ms, post, xpost⟩ := g
  obtain ⟨hF, hr, hlk, hE, hsl, rfl, hmc, hms, hout, hnm⟩ := hG
  intro H locs ls hP hS hv
  obtain ⟨C, T, N, hc, hi, hin, hlink, hdecl⟩ := hL
  have hsm : ∀ x, s.fieldFound? (T i).1 (T i).2.1 (T i).2.2.1 = some x → s.fieldFound? own (T i).2.1 (T i).2.2.1 = some x := by
    intro x hx
    rw [← hdecl]
    exact hx
  obtain ⟨C2, T2, N2, ty0, hc2, hty, hnm2⟩ := hW
  cases hc.symm.trans hc2
  obtain ⟨C3, T3, N3, hc3, hfin, hd3⟩ := hT
  cases hc.symm.trans hc3
  subst hfs
  have hap := va_apart (own := own) hF.2.2.2.2 hin ty0 hty hnm2 hE.1 hc
  obtain ⟨r, h1, cell, q1, q2, q3, q4⟩ := (hP a _ he).2
  cases h1.symm.trans hc
  obtain ⟨hS0, hfc, kC, hkC, hkind⟩ := hE.1.1 ci _ hc
  obtain ⟨cf, kf, fi, f, hi2, hsl2⟩ := hS0 i hi
  have hlay := hF.2.2.2.2 _ (hin _ (u_in_lay hi))
  unfold u_lay at hlay
  rw [if_pos hfin] at hlay
  have hst := (u_facts hfc hkC (u_lays hF.2.2.2.2 hin hi) hi2).1
  have hcf : m.cls = cf := by
    obtain ⟨_, _, c', _, _, _, -, -, hf', -, -, -, hown2, -⟩ := Cond.laysFinal_spec hlay
    have e1 : c' = cf := by have := hi2.symm.trans hf'; simp at this; exact this.1.symm
    rw [hdecl] at hown2
    rw [← e1]; exact Option.some.inj (hF.2.2.2.1.symm.trans hown2)
  have h6 := u_fits hfc hkC hkind (Or.inr hlay) hi2 hd3 hn hfit
  refine W.putFinK hF.1 hF.2.1 hF.2.2.2.1 (hF.2.2.2.2 _ hlink) (hsm _ hi2) hst hcf (hnm.trans hnm3) (by rw [q2]; exact h6) q1 q3 (by rw [hsl2]; exact k2_hasslot (q4 i hi)) rfl rfl hd fun H' e1 e2 e3 => ?_
  rw [hsl2] at e1 ⊢
  exact k H' _ ls (hP.put he ⟨_, hc, t_OB.to (V := updV (vp_V fs) i v) ⟨_, e1, q2, q3, t_set q4 hap hi v⟩ (fun j _ => vp_updV_set hlt v j)⟩ e3) (hS.put e2 e3 (hP a _ he).1) hv
theorem x_new {g : Cxt} {cc : ByteArray} {own nm : String} {rt : Option FieldType} {rm : Room} (hG : Cx g cc own nm rt rm) {w : Wd} {kc ks pc : Nat} {lv : List (Option Value)} {st : List Value} {idx ci N : Nat} {fs : List Value} (t : Tg) (hN : NW own idx ci N fs) (hd : decode cc pc = .ok (.new idx, 3)) (hkc : kc + 1 ≤ gM g) (hks : ks + N ≤ gN g) (k : ∀ q : Nat, w q = none → n0A (gΓ g) q → X g (wup w q (t, .inr (ci, fs))) (kc + 1) (ks + N) (pc + 3) lv (.ref q :: st)) : X g w kc ks pc lv st := by
  obtain ⟨p, l, e, R, s, m, args, below, meth, c, Γ, nL, mc, ms, post, xpost⟩ := g
  obtain ⟨hF, hr, hlk, hE, hsl, rfl, hmc, hms, hout, hnm⟩ := hG
  intro H locs ls hP hS hv
  obtain ⟨C, T, ty, hc, hin, hty, h1, h2, h3, hfs⟩ := hN
  have hKn := hE.1.1 ci _ hc
  have h0 : Γ.2.2.1 ≤ H.size := Nat.le_trans hE.2.2.2.2.2.2.2.1 hS.1
  refine W.newcK hF.1 hF.2.1 hF.2.2.2.1 (hF.2.2.2.2 _ h1) (hF.2.2.2.2 _ h2) (hF.2.2.2.2 _ h3) rfl hd (by rw [hmc]; exact hkc) (by rw [hms]; exact hks) hKn.2.1 rfl fun H1 kC hkC e1 z1 o1 => ?_
  exact k H.size (hP.fresh (Nat.le_refl _)) h0 H1 locs ls (hP.new h0 ⟨_, hc, (u_born ty hF.2.2.2.2 hin hKn hkC e1 hty).to hfs⟩ o1) ⟨Nat.le_trans hS.1 (by omega), fun x h1 h2 => (o1 x (Nat.lt_of_lt_of_le h1 hS.1)).trans (hS.2.1 x h1 h2), hS.2.2⟩ hv
theorem x_iald {g : Cxt} {cc : ByteArray} {own nm : String} {rt : Option FieldType} {rm : Room} (hG : Cx g cc own nm rt rm) {w : Wd} {kc ks pc : Nat} {lv : List (Option Value)} {st : List Value} {a n : Nat} {t : Tg} {f : Nat → Int32} {i : Int32} (he : w a = some (t, .inl (gK g 0, n, .inl f))) (hin : vp_in i n) (hd : decode cc pc = .ok (.iaload, 1)) (k : X g w kc ks (pc + 1) lv (.int (f i.toNatClampNeg) :: st)) : X g w kc ks pc lv (.int i :: .ref a :: st) := by
  obtain ⟨p, l, e, R, s, m, args, below, meth, c, Γ, nL, mc, ms, post, xpost⟩ := g
  obtain ⟨hF, hr, hlk, hE, hsl, rfl, hmc, hms, hout, hnm⟩ := hG
  intro H locs ls hP hS hv
  exact va_iald hF.1 hF.2.1 hE.1 (hP.one he) 0 0 rfl rfl hin hd (k H locs ls hP hS hv)
theorem x_lald {g : Cxt} {cc : ByteArray} {own nm : String} {rt : Option FieldType} {rm : Room} (hG : Cx g cc own nm rt rm) {w : Wd} {kc ks pc : Nat} {lv : List (Option Value)} {st : List Value} {a n : Nat} {t : Tg} {f : Nat → Int64} {i : Int32} (he : w a = some (t, .inl (gK g 5, n, .inr (.inl f)))) (hin : vp_in i n) (hd : decode cc pc = .ok (.laload, 1)) (k : X g w kc ks (pc + 1) lv (.long (f i.toNatClampNeg) :: st)) : X g w kc ks pc lv (.int i :: .ref a :: st) := by
  obtain ⟨p, l, e, R, s, m, args, below, meth, c, Γ, nL, mc, ms, post, xpost⟩ := g
  obtain ⟨hF, hr, hlk, hE, hsl, rfl, hmc, hms, hout, hnm⟩ := hG
  intro H locs ls hP hS hv
  exact va_lald hF.1 hF.2.1 hE.1 (hP.one he) 0 5 rfl rfl hin hd (k H locs ls hP hS hv)
theorem x_dald {g : Cxt} {cc : ByteArray} {own nm : String} {rt : Option FieldType} {rm : Room} (hG : Cx g cc own nm rt rm) {w : Wd} {kc ks pc : Nat} {lv : List (Option Value)} {st : List Value} {a n : Nat} {t : Tg} {f : Nat → UInt64} {i : Int32} (he : w a = some (t, .inl (gK g 6, n, .inr (.inr (.inr (.inl f)))))) (hin : vp_in i n) (hd : decode cc pc = .ok (.daload, 1)) (k : X g w kc ks (pc + 1) lv (.double (f i.toNatClampNeg) :: st)) : X g w kc ks pc lv (.int i :: .ref a :: st) := by
  obtain ⟨p, l, e, R, s, m, args, below, meth, c, Γ, nL, mc, ms, post, xpost⟩ := g
  obtain ⟨hF, hr, hlk, hE, hsl, rfl, hmc, hms, hout, hnm⟩ := hG
  intro H locs ls hP hS hv
  exact va_dald hF.1 hF.2.1 hE.1 (hP.one he) 0 6 rfl rfl hin hd (k H locs ls hP hS hv)
theorem x_aaldO {g : Cxt} {cc : ByteArray} {own nm : String} {rt : Option FieldType} {rm : Room} (hG : Cx g cc own nm rt rm) {w : Wd} {kc ks pc : Nat} {lv : List (Option Value)} {st : List Value} {a n : Nat} {t : Tg} {f : Nat → Option Nat} {i : Int32} (he : w a = some (t, .inl (gK g 1, n, .inr (.inr (.inr (.inr f)))))) (hin : vp_in i n) (hd : decode cc pc = .ok (.aaload, 1)) (k : X g w kc ks (pc + 1) lv (va_rf (f i.toNatClampNeg) :: st)) : X g w kc ks pc lv (.int i :: .ref a :: st) := by
  obtain ⟨p, l, e, R, s, m, args, below, meth, c, Γ, nL, mc, ms, post, xpost⟩ := g
  obtain ⟨hF, hr, hlk, hE, hsl, rfl, hmc, hms, hout, hnm⟩ := hG
  intro H locs ls hP hS hv
  exact va_aldq hF.1 hF.2.1 hE.1 (hP.one he) 0 1 rfl rfl hin hd (k H locs ls hP hS hv)
theorem x_aaldS {g : Cxt} {cc : ByteArray} {own nm : String} {rt : Option FieldType} {rm : Room} (hG : Cx g cc own nm rt rm) {w : Wd} {kc ks pc : Nat} {lv : List (Option Value)} {st : List Value} {a n : Nat} {t : Tg} {f : Nat → Option Nat} {i : Int32} (he : w a = some (t, .inl (gK g 2, n, .inr (.inr (.inr (.inr f)))))) (hin : vp_in i n) (hd : decode cc pc = .ok (.aaload, 1)) (k : X g w kc ks (pc + 1) lv (va_rf (f i.toNatClampNeg) :: st)) : X g w kc ks pc lv (.int i :: .ref a :: st) := by
  obtain ⟨p, l, e, R, s, m, args, below, meth, c, Γ, nL, mc, ms, post, xpost⟩ := g
  obtain ⟨hF, hr, hlk, hE, hsl, rfl, hmc, hms, hout, hnm⟩ := hG
  intro H locs ls hP hS hv
  exact va_aldq hF.1 hF.2.1 hE.1 (hP.one he) 0 2 rfl rfl hin hd (k H locs ls hP hS hv)
theorem x_aaldV {g : Cxt} {cc : ByteArray} {own nm : String} {rt : Option FieldType} {rm : Room} (hG : Cx g cc own nm rt rm) {w : Wd} {kc ks pc : Nat} {lv : List (Option Value)} {st : List Value} {a n : Nat} {t : Tg} {f : Nat → Option Nat} {i : Int32} (he : w a = some (t, .inl (gK g 3, n, .inr (.inr (.inr (.inr f)))))) (hin : vp_in i n) (hd : decode cc pc = .ok (.aaload, 1)) (k : X g w kc ks (pc + 1) lv (va_rf (f i.toNatClampNeg) :: st)) : X g w kc ks pc lv (.int i :: .ref a :: st) := by
  obtain ⟨p, l, e, R, s, m, args, below, meth, c, Γ, nL, mc, ms, post, xpost⟩ := g
  obtain ⟨hF, hr, hlk, hE, hsl, rfl, hmc, hms, hout, hnm⟩ := hG
  intro H locs ls hP hS hv
  exact va_aldq hF.1 hF.2.1 hE.1 (hP.one he) 0 3 rfl rfl hin hd (k H locs ls hP hS hv)
theorem x_aaldI {g : Cxt} {cc : ByteArray} {own nm : String} {rt : Option FieldType} {rm : Room} (hG : Cx g cc own nm rt rm) {w : Wd} {kc ks pc : Nat} {lv : List (Option Value)} {st : List Value} {a n : Nat} {t : Tg} {f : Nat → Option Nat} {i : Int32} (he : w a = some (t, .inl (gK g 4, n, .inr (.inr (.inr (.inr f)))))) (hin : vp_in i n) (hd : decode cc pc = .ok (.aaload, 1)) (k : X g w kc ks (pc + 1) lv (va_rf (f i.toNatClampNeg) :: st)) : X g w kc ks pc lv (.int i :: .ref a :: st) := by
  obtain ⟨p, l, e, R, s, m, args, below, meth, c, Γ, nL, mc, ms, post, xpost⟩ := g
  obtain ⟨hF, hr, hlk, hE, hsl, rfl, hmc, hms, hout, hnm⟩ := hG
  intro H locs ls hP hS hv
  have hlt : i.toNatClampNeg < n := Nat.not_le.mp fun q => hin (Or.inr q)
  exact W.aald (v := va_rf (f i.toNatClampNeg)) (ty := .array .int) hF.1 hF.2.1 (hP a _ he).2 ((hE.1.2 4 _ rfl).1 n (fun j => va_rf (f j))) rfl (fun q => by cases q) (by show ¬ (i < 0 ∨ (arrV _ _ _).slots.size ≤ _); rw [arrV_size]; exact hin) (by show (arrV _ _ _).slots[_]? = _; rw [arrV_read _ _ hlt]) rfl rfl hd (k H locs ls hP hS hv)
theorem x_alenI {g : Cxt} {cc : ByteArray} {own nm : String} {rt : Option FieldType} {rm : Room} (hG : Cx g cc own nm rt rm) {w : Wd} {kc ks pc : Nat} {lv : List (Option Value)} {st : List Value} {a n : Nat} {t : Tg} {f : Nat → Int32} (he : w a = some (t, .inl (gK g 0, n, .inl f))) (hd : decode cc pc = .ok (.arraylength, 1)) (k : X g w kc ks (pc + 1) lv (.int (nI n) :: st)) : X g w kc ks pc lv (.ref a :: st) := by
  obtain ⟨p, l, e, R, s, m, args, below, meth, c, Γ, nL, mc, ms, post, xpost⟩ := g
  obtain ⟨hF, hr, hlk, hE, hsl, rfl, hmc, hms, hout, hnm⟩ := hG
  intro H locs ls hP hS hv
  exact va_alen hF.1 hF.2.1 hE.1 (hP.one he) 0 0 rfl rfl rfl hd (k H locs ls hP hS hv)
theorem x_alenO {g : Cxt} {cc : ByteArray} {own nm : String} {rt : Option FieldType} {rm : Room} (hG : Cx g cc own nm rt rm) {w : Wd} {kc ks pc : Nat} {lv : List (Option Value)} {st : List Value} {a n : Nat} {t : Tg} {f : Nat → Option Nat} (he : w a = some (t, .inl (gK g 1, n, .inr (.inr (.inr (.inr f)))))) (hd : decode cc pc = .ok (.arraylength, 1)) (k : X g w kc ks (pc + 1) lv (.int (nI n) :: st)) : X g w kc ks pc lv (.ref a :: st) := by
  obtain ⟨p, l, e, R, s, m, args, below, meth, c, Γ, nL, mc, ms, post, xpost⟩ := g
  obtain ⟨hF, hr, hlk, hE, hsl, rfl, hmc, hms, hout, hnm⟩ := hG
  intro H locs ls hP hS hv
  exact va_alen hF.1 hF.2.1 hE.1 (hP.one he) 0 1 rfl rfl rfl hd (k H locs ls hP hS hv)
theorem x_alenS {g : Cxt} {cc : ByteArray} {own nm : String} {rt : Option FieldType} {rm : Room} (hG : Cx g cc own nm rt rm) {w : Wd} {kc ks pc : Nat} {lv : List (Option Value)} {st : List Value} {a n : Nat} {t : Tg} {f : Nat → Option Nat} (he : w a = some (t, .inl (gK g 2, n, .inr (.inr (.inr (.inr f)))))) (hd : decode cc pc = .ok (.arraylength, 1)) (k : X g w kc ks (pc + 1) lv (.int (nI n) :: st)) : X g w kc ks pc lv (.ref a :: st) := by
  obtain ⟨p, l, e, R, s, m, args, below, meth, c, Γ, nL, mc, ms, post, xpost⟩ := g
  obtain ⟨hF, hr, hlk, hE, hsl, rfl, hmc, hms, hout, hnm⟩ := hG
  intro H locs ls hP hS hv
  exact va_alen hF.1 hF.2.1 hE.1 (hP.one he) 0 2 rfl rfl rfl hd (k H locs ls hP hS hv)
theorem x_alenII {g : Cxt} {cc : ByteArray} {own nm : String} {rt : Option FieldType} {rm : Room} (hG : Cx g cc own nm rt rm) {w : Wd} {kc ks pc : Nat} {lv : List (Option Value)} {st : List Value} {a n : Nat} {t : Tg} {f : Nat → Option Nat} (he : w a = some (t, .inl (gK g 4, n, .inr (.inr (.inr (.inr f)))))) (hd : decode cc pc = .ok (.arraylength, 1)) (k : X g w kc ks (pc + 1) lv (.int (nI n) :: st)) : X g w kc ks pc lv (.ref a :: st) := by
  obtain ⟨p, l, e, R, s, m, args, below, meth, c, Γ, nL, mc, ms, post, xpost⟩ := g
  obtain ⟨hF, hr, hlk, hE, hsl, rfl, hmc, hms, hout, hnm⟩ := hG
  intro H locs ls hP hS hv
  exact va_alen hF.1 hF.2.1 hE.1 (hP.one he) 0 4 rfl rfl rfl hd (k H locs ls hP hS hv)
theorem x_iast {g : Cxt} {cc : ByteArray} {own nm : String} {rt : Option FieldType} {rm : Room} (hG : Cx g cc own nm rt rm) {w : Wd} {kc ks pc : Nat} {lv : List (Option Value)} {st : List Value} {a n : Nat} {t : Tg} {f : Nat → Int32} {i : Int32} {x : Int32} (he : w a = some (t, .inl (gK g 0, n, .inl (f)))) (hin : vp_in i n) (hd : decode cc pc = .ok (.iastore, 1)) (k : X g (wup w a (t, .inl (gK g 0, n, .inl (upd f i.toNatClampNeg x)))) kc ks (pc + 1) lv st) : X g w kc ks pc lv (.int x :: .int i :: .ref a :: st) := by
  obtain ⟨p, l, e, R, s, m, args, below, meth, c, Γ, nL, mc, ms, post, xpost⟩ := g
  obtain ⟨hF, hr, hlk, hE, hsl, rfl, hmc, hms, hout, hnm⟩ := hG
  intro H locs ls hP hS hv
  refine W.iast hF.1 hF.2.1 (hP a _ he).2 ((hE.1.2 0 _ rfl).1 n (fun j => .int (f j))) (fun q => by cases q) (by show ¬ (i < 0 ∨ (arrV _ _ _).slots.size ≤ _); rw [arrV_size]; exact hin) rfl rfl hd fun H1 e z oq => ?_
  refine k H1 _ ls (hP.put he ?_ oq) (hS.put z oq (hP a _ he).1) hv
  show H1[a]? = some (vp_cell _ _)
  rw [e]
  rw [vp_cell_i, vp_cell_i, arrV_store]
  congr 2
  funext q
  by_cases hq : q = i.toNatClampNeg
  · subst hq
    simp [updV, upd]
  · simp [updV, upd, hq]
theorem x_last {g : Cxt} {cc : ByteArray} {own nm : String} {rt : Option FieldType} {rm : Room} (hG : Cx g cc own nm rt rm) {w : Wd} {kc ks pc : Nat} {lv : List (Option Value)} {st : List Value} {a n : Nat} {t : Tg} {f : Nat → Int64} {i : Int32} {x : Int64} (he : w a = some (t, .inl (gK g 5, n, .inr (.inl (f))))) (hin : vp_in i n) (hd : decode cc pc = .ok (.lastore, 1)) (k : X g (wup w a (t, .inl (gK g 5, n, .inr (.inl (vp_updL f i.toNatClampNeg x))))) kc ks (pc + 1) lv st) : X g w kc ks pc lv (.long x :: .int i :: .ref a :: st) := by
  obtain ⟨p, l, e, R, s, m, args, below, meth, c, Γ, nL, mc, ms, post, xpost⟩ := g
  obtain ⟨hF, hr, hlk, hE, hsl, rfl, hmc, hms, hout, hnm⟩ := hG
  intro H locs ls hP hS hv
  refine W.last hF.1 hF.2.1 (hP a _ he).2 ((hE.1.2 5 _ rfl).1 n (fun j => .long (f j))) (fun q => by cases q) (by show ¬ (i < 0 ∨ (arrV _ _ _).slots.size ≤ _); rw [arrV_size]; exact hin) rfl rfl hd fun H1 e z oq => ?_
  refine k H1 _ ls (hP.put he ?_ oq) (hS.put z oq (hP a _ he).1) hv
  show H1[a]? = some (vp_cell _ _)
  rw [e]
  rw [vp_cell_l, vp_cell_l, arrV_store]
  congr 2
  funext q
  by_cases hq : q = i.toNatClampNeg
  · subst hq
    simp [updV, vp_updL]
  · simp [updV, vp_updL, hq]
theorem x_dast {g : Cxt} {cc : ByteArray} {own nm : String} {rt : Option FieldType} {rm : Room} (hG : Cx g cc own nm rt rm) {w : Wd} {kc ks pc : Nat} {lv : List (Option Value)} {st : List Value} {a n : Nat} {t : Tg} {f : Nat → UInt64} {i : Int32} {x : UInt64} (he : w a = some (t, .inl (gK g 6, n, .inr (.inr (.inr (.inl (f))))))) (hin : vp_in i n) (hd : decode cc pc = .ok (.dastore, 1)) (k : X g (wup w a (t, .inl (gK g 6, n, .inr (.inr (.inr (.inl (vf_upd f i.toNatClampNeg x))))))) kc ks (pc + 1) lv st) : X g w kc ks pc lv (.double x :: .int i :: .ref a :: st) := by
  obtain ⟨p, l, e, R, s, m, args, below, meth, c, Γ, nL, mc, ms, post, xpost⟩ := g
  obtain ⟨hF, hr, hlk, hE, hsl, rfl, hmc, hms, hout, hnm⟩ := hG
  intro H locs ls hP hS hv
  refine W.dast hF.1 hF.2.1 (hP a _ he).2 ((hE.1.2 6 _ rfl).1 n (fun j => .double (f j))) (fun q => by cases q) (by show ¬ (i < 0 ∨ (arrV _ _ _).slots.size ≤ _); rw [arrV_size]; exact hin) rfl rfl hd fun H1 e z oq => ?_
  refine k H1 _ ls (hP.put he ?_ oq) (hS.put z oq (hP a _ he).1) hv
  show H1[a]? = some (vp_cell _ _)
  rw [e]
  rw [vp_cell_d, vp_cell_d, arrV_store]
  congr 2
  funext q
  by_cases hq : q = i.toNatClampNeg
  · subst hq
    simp [updV, vf_upd]
  · simp [updV, vf_upd, hq]
theorem x_aastS {g : Cxt} {cc : ByteArray} {own nm : String} {rt : Option FieldType} {rm : Room} (hG : Cx g cc own nm rt rm) {w : Wd} {kc ks pc : Nat} {lv : List (Option Value)} {st : List Value} {a n v : Nat} {t tv : Tg} {f : Nat → Option Nat} {vs : List Value} {i : Int32} (he : w a = some (t, .inl (gK g 2, n, .inr (.inr (.inr (.inr f)))))) (hx : w v = some (tv, .inr (5, vs))) (hin : vp_in i n) (hd : decode cc pc = .ok (.aastore, 1)) (k : X g (wup w a (t, .inl (gK g 2, n, .inr (.inr (.inr (.inr (va_up f i.toNatClampNeg (some v)))))))) kc ks (pc + 1) lv st) : X g w kc ks pc lv (.ref v :: .int i :: .ref a :: st) := by
  obtain ⟨p, l, e, R, s, m, args, below, meth, c, Γ, nL, mc, ms, post, xpost⟩ := g
  obtain ⟨hF, hr, hlk, hE, hsl, rfl, hmc, hms, hout, hnm⟩ := hG
  intro H locs ls hP hS hv
  have hlt : i.toNatClampNeg < n := Nat.not_le.mp fun q => hin (Or.inr q)
  have h0 : ¬ i < 0 := fun q => hin (Or.inl q)
  obtain ⟨r, hr9, cellV, g1, g2, g3, -⟩ := (hP v _ hx).2
  have hcls := (hE.1.1 5 _ rfl).2
  obtain ⟨kA, comp, k1, k2, k3, -⟩ := (hE.1.2 2 _ rfl).2
  have hcomp : comp = Γ.1.1 5 := Option.some.inj (k3.symm.trans hcls.1)
  subst hcomp
  obtain ⟨kC, hkC, -⟩ := id hcls.2
  refine W.aast hF.1 hF.2.1 (hP a _ he).2 (fun q h => by cases h) (fun h => by cases h) k1 k2 rfl hkC ⟨h0, by show _ < (arrV _ _ _).slots.size; rw [arrV_size]; exact hlt⟩ g1 (fun q h => by rw [g3] at h; cases h) (by rw [g2]; exact hkC) (by rw [g2]; exact va_assign hcls) rfl rfl hd fun H1 e z oq => ?_
  refine k H1 _ ls (hP.put he ?_ oq) (hS.put z oq (hP a _ he).1) hv
  show H1[a]? = some (vp_cell _ _)
  rw [e]
  rw [vp_cell_q, vp_cell_q, arrV_store]
  congr 2
  funext q
  by_cases hq : q = i.toNatClampNeg
  · subst hq
    simp [updV, va_up, va_rf]
  · simp [updV, va_up, hq]
theorem x_aastV {g : Cxt} {cc : ByteArray} {own nm : String} {rt : Option FieldType} {rm : Room} (hG : Cx g cc own nm rt rm) {w : Wd} {kc ks pc : Nat} {lv : List (Option Value)} {st : List Value} {a n v : Nat} {t tv : Tg} {f : Nat → Option Nat} {vs : List Value} {i : Int32} (he : w a = some (t, .inl (gK g 3, n, .inr (.inr (.inr (.inr f)))))) (hx : w v = some (tv, .inr (6, vs))) (hin : vp_in i n) (hd : decode cc pc = .ok (.aastore, 1)) (k : X g (wup w a (t, .inl (gK g 3, n, .inr (.inr (.inr (.inr (va_up f i.toNatClampNeg (some v)))))))) kc ks (pc + 1) lv st) : X g w kc ks pc lv (.ref v :: .int i :: .ref a :: st) := by
  obtain ⟨p, l, e, R, s, m, args, below, meth, c, Γ, nL, mc, ms, post, xpost⟩ := g
  obtain ⟨hF, hr, hlk, hE, hsl, rfl, hmc, hms, hout, hnm⟩ := hG
  intro H locs ls hP hS hv
  have hlt : i.toNatClampNeg < n := Nat.not_le.mp fun q => hin (Or.inr q)
  have h0 : ¬ i < 0 := fun q => hin (Or.inl q)
  obtain ⟨r, hr9, cellV, g1, g2, g3, -⟩ := (hP v _ hx).2
  have hcls := (hE.1.1 6 _ rfl).2
  obtain ⟨kA, comp, k1, k2, k3, -⟩ := (hE.1.2 3 _ rfl).2
  have hcomp : comp = Γ.1.1 6 := Option.some.inj (k3.symm.trans hcls.1)
  subst hcomp
  obtain ⟨kC, hkC, -⟩ := id hcls.2
  refine W.aast hF.1 hF.2.1 (hP a _ he).2 (fun q h => by cases h) (fun h => by cases h) k1 k2 rfl hkC ⟨h0, by show _ < (arrV _ _ _).slots.size; rw [arrV_size]; exact hlt⟩ g1 (fun q h => by rw [g3] at h; cases h) (by rw [g2]; exact hkC) (by rw [g2]; exact va_assign hcls) rfl rfl hd fun H1 e z oq => ?_
  refine k H1 _ ls (hP.put he ?_ oq) (hS.put z oq (hP a _ he).1) hv
  show H1[a]? = some (vp_cell _ _)
  rw [e]
  rw [vp_cell_q, vp_cell_q, arrV_store]
  congr 2
  funext q
  by_cases hq : q = i.toNatClampNeg
  · subst hq
    simp [updV, va_up, va_rf]
  · simp [updV, va_up, hq]
theorem x_aastO {g : Cxt} {cc : ByteArray} {own nm : String} {rt : Option FieldType} {rm : Room} (hG : Cx g cc own nm rt rm) {w : Wd} {kc ks pc : Nat} {lv : List (Option Value)} {st : List Value} {a n v ci : Nat} {t tv : Tg} {f : Nat → Option Nat} {vs : List Value} {i : Int32} (he : w a = some (t, .inl (gK g 1, n, .inr (.inr (.inr (.inr f)))))) (hx : w v = some (tv, .inr (ci, vs))) (hca : ∃ (C : String) (T : u_T) (N : Nat), vwCl[ci]? = some (C, T, N) ∧ Cond.castable C "java/lang/Object" ∈ NB) (hin : vp_in i n) (hd : decode cc pc = .ok (.aastore, 1)) (k : X g (wup w a (t, .inl (gK g 1, n, .inr (.inr (.inr (.inr (va_up f i.toNatClampNeg (some v)))))))) kc ks (pc + 1) lv st) : X g w kc ks pc lv (.ref v :: .int i :: .ref a :: st) := by
  obtain ⟨p, l, e, R, s, m, args, below, meth, c, Γ, nL, mc, ms, post, xpost⟩ := g
  obtain ⟨hF, hr, hlk, hE, hsl, rfl, hmc, hms, hout, hnm⟩ := hG
  intro H locs ls hP hS hv
  have hlt : i.toNatClampNeg < n := Nat.not_le.mp fun q => hin (Or.inr q)
  have h0 : ¬ i < 0 := fun q => hin (Or.inl q)
  obtain ⟨r, hr9, cellV, g1, g2, g3, -⟩ := (hP v _ hx).2
  obtain ⟨C, T, N, hc, hcw⟩ := hca
  cases hr9.symm.trans hc
  have hcls := (hE.1.1 ci _ hc).2
  obtain ⟨kA, comp, k1, k2, k3, -⟩ := (hE.1.2 1 _ rfl).2
  obtain ⟨kE, hkE, -⟩ := Vm.findClass_spec k3
  obtain ⟨c0, t1, f1, f2, f3⟩ := Cond.castable_spec (va_Nw.use (A := args) rfl (hE.2.1 _ hcw))
  cases hcls.1.symm.trans f1
  cases k3.symm.trans f2
  obtain ⟨kC, hkC, -⟩ := hcls.2
  refine W.aast hF.1 hF.2.1 (hP a _ he).2 (fun q h => by cases h) (fun h => by cases h) k1 k2 rfl hkE ⟨h0, by show _ < (arrV _ _ _).slots.size; rw [arrV_size]; exact hlt⟩ g1 (fun q h => by rw [g3] at h; cases h) (by rw [g2]; exact hkC) (by rw [g2]; exact f3) rfl rfl hd fun H1 e z oq => ?_
  refine k H1 _ ls (hP.put he ?_ oq) (hS.put z oq (hP a _ he).1) hv
  show H1[a]? = some (vp_cell _ _)
  rw [e]
  rw [vp_cell_q, vp_cell_q, arrV_store]
  congr 2
  funext q
  by_cases hq : q = i.toNatClampNeg
  · subst hq
    simp [updV, va_up, va_rf]
  · simp [updV, va_up, hq]
end
section
theorem zz_last : True := trivial
end
