def RX0 : String := "TrackNights$Machine"
def TX0 : u_T := fun k => match k with
  | 0 => ("TrackNights$Machine", "kind", "I", true)
  | 1 => ("TrackNights$Machine", "life", "I", false)
  | 2 => ("TrackNights$Machine", "worksDone", "I", false)
  | _ => ("TrackNights$Machine", "failures", "I", false)
def tyX0 : Nat → FieldType := fun k => match k with
  | 0 => .int
  | 1 => .int
  | 2 => .int
  | _ => .int
theorem nmX0 : ∀ a, a < 4 → ∀ b, b < 4 → a ≠ b → (TX0 a).2.1 ≠ (TX0 b).2.1 := by decide +kernel
theorem tyX0_ok : ∀ k, k < 4 → parseFieldDescriptor (TX0 k).2.2.1 = some (tyX0 k) := by decide +kernel
abbrev cX0_init : ByteArray := prog_2_method_1_code
def yX0_init : MethodName := ⟨RX0, "<init>", "(II)V"⟩
def RX1 : String := "TrackNights$Measure"
def TX1 : u_T := fun k => match k with
  | 0 => ("TrackNights$Measure", "track", "I", true)
  | 1 => ("TrackNights$Measure", "drift", "I", true)
  | 2 => ("TrackNights$Measure", "aligned", "Z", false)
  | _ => ("TrackNights$Measure", "written", "[LTrackNights$Values;", true)
def tyX1 : Nat → FieldType := fun k => match k with
  | 0 => .int
  | 1 => .int
  | 2 => .boolean
  | _ => .array (.object "TrackNights$Values")
theorem nmX1 : ∀ a, a < 4 → ∀ b, b < 4 → a ≠ b → (TX1 a).2.1 ≠ (TX1 b).2.1 := by decide +kernel
theorem tyX1_ok : ∀ k, k < 4 → parseFieldDescriptor (TX1 k).2.2.1 = some (tyX1 k) := by decide +kernel
abbrev cX1_init : ByteArray := prog_3_method_1_code
def yX1_init : MethodName := ⟨RX1, "<init>", "(II)V"⟩
abbrev cX1_write : ByteArray := prog_3_method_2_code
def yX1_write : MethodName := ⟨RX1, "write", "(ILTrackNights$Values;)V"⟩
abbrev cX1_says : ByteArray := prog_3_method_3_code
def yX1_says : MethodName := ⟨RX1, "says", "(I)LTrackNights$Values;"⟩
abbrev cX1_writtenOf : ByteArray := prog_3_method_4_code
def yX1_writtenOf : MethodName := ⟨RX1, "writtenOf", "(I)LTrackNights$Values;"⟩
abbrev cX1_writtenFor : ByteArray := prog_3_method_5_code
def yX1_writtenFor : MethodName := ⟨RX1, "writtenFor", "(II)LTrackNights$Values;"⟩
def RX2 : String := "TrackNights$Possession"
def TX2 : u_T := fun k => match k with
  | 0 => ("TrackNights$Possession", "track", "I", true)
  | 1 => ("TrackNights$Possession", "from", "I", true)
  | 2 => ("TrackNights$Possession", "to", "I", true)
  | 3 => ("TrackNights$Possession", "day", "I", true)
  | 4 => ("TrackNights$Possession", "hours", "I", true)
  | 5 => ("TrackNights$Possession", "works", "Ljava/util/ArrayList;", true)
  | 6 => ("TrackNights$Possession", "state", "I", false)
  | 7 => ("TrackNights$Possession", "firstMarked", "Z", false)
  | 8 => ("TrackNights$Possession", "secondMarked", "Z", false)
  | _ => ("TrackNights$Possession", "overrun", "I", false)
def tyX2 : Nat → FieldType := fun k => match k with
  | 0 => .int
  | 1 => .int
  | 2 => .int
  | 3 => .int
  | 4 => .int
  | 5 => .object "java/util/ArrayList"
  | 6 => .int
  | 7 => .boolean
  | 8 => .boolean
  | _ => .int
theorem nmX2 : ∀ a, a < 10 → ∀ b, b < 10 → a ≠ b → (TX2 a).2.1 ≠ (TX2 b).2.1 := by decide +kernel
theorem tyX2_ok : ∀ k, k < 10 → parseFieldDescriptor (TX2 k).2.2.1 = some (tyX2 k) := by decide +kernel
abbrev cX2_init : ByteArray := prog_4_method_1_code
def yX2_init : MethodName := ⟨RX2, "<init>", "(IIIII)V"⟩
abbrev cX2_has : ByteArray := prog_4_method_2_code
def yX2_has : MethodName := ⟨RX2, "has", "(I)Z"⟩
abbrev cX2_meets : ByteArray := prog_4_method_3_code
def yX2_meets : MethodName := ⟨RX2, "meets", "(III)Z"⟩
abbrev cX2_isComingOrTaken : ByteArray := prog_4_method_4_code
def yX2_isComingOrTaken : MethodName := ⟨RX2, "isComingOrTaken", "()Z"⟩
abbrev cX2_isMarked : ByteArray := prog_4_method_5_code
def yX2_isMarked : MethodName := ⟨RX2, "isMarked", "(I)Z"⟩
abbrev cX2_putMark : ByteArray := prog_4_method_6_code
def yX2_putMark : MethodName := ⟨RX2, "putMark", "(I)V"⟩
abbrev cX2_marks : ByteArray := prog_4_method_7_code
def yX2_marks : MethodName := ⟨RX2, "marks", "()I"⟩
abbrev cX2_uses : ByteArray := prog_4_method_8_code
def yX2_uses : MethodName := ⟨RX2, "uses", "(LTrackNights$Machine;)Z"⟩
abbrev cX2_hoursPlanned : ByteArray := prog_4_method_9_code
def yX2_hoursPlanned : MethodName := ⟨RX2, "hoursPlanned", "()I"⟩
abbrev cX2_hoursTakenBy : ByteArray := prog_4_method_10_code
def yX2_hoursTakenBy : MethodName := ⟨RX2, "hoursTakenBy", "(LTrackNights$Machine;)I"⟩
def RX3 : String := "TrackNights$Section"
def TX3 : u_T := fun k => match k with
  | 0 => ("TrackNights$Section", "values", "LTrackNights$Values;", true)
  | 1 => ("TrackNights$Section", "tamps", "I", false)
  | 2 => ("TrackNights$Section", "free", "I", false)
  | 3 => ("TrackNights$Section", "curve", "Z", false)
  | _ => ("TrackNights$Section", "sign", "I", false)
def tyX3 : Nat → FieldType := fun k => match k with
  | 0 => .object "TrackNights$Values"
  | 1 => .int
  | 2 => .int
  | 3 => .boolean
  | _ => .int
theorem nmX3 : ∀ a, a < 5 → ∀ b, b < 5 → a ≠ b → (TX3 a).2.1 ≠ (TX3 b).2.1 := by decide +kernel
theorem tyX3_ok : ∀ k, k < 5 → parseFieldDescriptor (TX3 k).2.2.1 = some (tyX3 k) := by decide +kernel
abbrev cX3_init : ByteArray := prog_5_method_1_code
def yX3_init : MethodName := ⟨RX3, "<init>", "()V"⟩
abbrev cX3_become : ByteArray := prog_5_method_2_code
def yX3_become : MethodName := ⟨RX3, "become", "(LTrackNights$Section;)V"⟩
abbrev cX3_trueSpeed : ByteArray := prog_5_method_3_code
def yX3_trueSpeed : MethodName := ⟨RX3, "trueSpeed", "(I)I"⟩
abbrev cX3_isRisk : ByteArray := prog_5_method_4_code
def yX3_isRisk : MethodName := ⟨RX3, "isRisk", "(I)Z"⟩
abbrev cX3_bearDay : ByteArray := prog_5_method_5_code
def yX3_bearDay : MethodName := ⟨RX3, "bearDay", "(I)V"⟩
abbrev cX3_crackGrowth : ByteArray := prog_5_method_6_code
def yX3_crackGrowth : MethodName := ⟨RX3, "crackGrowth", "()I"⟩
abbrev cX3_hoursFor : ByteArray := prog_5_method_7_code
def yX3_hoursFor : MethodName := ⟨RX3, "hoursFor", "(I)I"⟩
abbrev cX3_treat : ByteArray := prog_5_method_8_code
def yX3_treat : MethodName := ⟨RX3, "treat", "(II)V"⟩
def RX4 : String := "TrackNights$Values"
def TX4 : u_T := fun k => match k with
  | 0 => ("TrackNights$Values", "wear", "I", false)
  | 1 => ("TrackNights$Values", "crack", "I", false)
  | _ => ("TrackNights$Values", "settle", "I", false)
def tyX4 : Nat → FieldType := fun k => match k with
  | 0 => .int
  | 1 => .int
  | _ => .int
theorem nmX4 : ∀ a, a < 3 → ∀ b, b < 3 → a ≠ b → (TX4 a).2.1 ≠ (TX4 b).2.1 := by decide +kernel
theorem tyX4_ok : ∀ k, k < 3 → parseFieldDescriptor (TX4 k).2.2.1 = some (tyX4 k) := by decide +kernel
abbrev cX4_init : ByteArray := prog_6_method_1_code
def yX4_init : MethodName := ⟨RX4, "<init>", "(III)V"⟩
abbrev cX4_speed : ByteArray := prog_6_method_2_code
def yX4_speed : MethodName := ⟨RX4, "speed", "(I)I"⟩
abbrev cX4_decider : ByteArray := prog_6_method_3_code
def yX4_decider : MethodName := ⟨RX4, "decider", "(I)I"⟩
abbrev cX4_speedByWear : ByteArray := prog_6_method_4_code
def yX4_speedByWear : MethodName := ⟨RX4, "speedByWear", "()I"⟩
abbrev cX4_speedByCrack : ByteArray := prog_6_method_5_code
def yX4_speedByCrack : MethodName := ⟨RX4, "speedByCrack", "()I"⟩
abbrev cX4_speedBySettle : ByteArray := prog_6_method_6_code
def yX4_speedBySettle : MethodName := ⟨RX4, "speedBySettle", "()I"⟩
abbrev cX4_speedByHeat : ByteArray := prog_6_method_7_code
def yX4_speedByHeat : MethodName := ⟨RX4, "speedByHeat", "(I)I"⟩
def RX5 : String := "TrackNights$Work"
def TX5 : u_T := fun k => match k with
  | 0 => ("TrackNights$Work", "section", "LTrackNights$Section;", true)
  | 1 => ("TrackNights$Work", "machine", "LTrackNights$Machine;", true)
  | _ => ("TrackNights$Work", "hours", "I", true)
def tyX5 : Nat → FieldType := fun k => match k with
  | 0 => .object "TrackNights$Section"
  | 1 => .object "TrackNights$Machine"
  | _ => .int
theorem nmX5 : ∀ a, a < 3 → ∀ b, b < 3 → a ≠ b → (TX5 a).2.1 ≠ (TX5 b).2.1 := by decide +kernel
theorem tyX5_ok : ∀ k, k < 3 → parseFieldDescriptor (TX5 k).2.2.1 = some (tyX5 k) := by decide +kernel
abbrev cX5_init : ByteArray := prog_7_method_1_code
def yX5_init : MethodName := ⟨RX5, "<init>", "(LTrackNights$Section;LTrackNights$Machine;I)V"⟩
def RX6 : String := "TrackNights"
def TX6 : u_T := fun k => match k with
  | 0 => ("TrackNights", "sections", "[LTrackNights$Section;", true)
  | 1 => ("TrackNights", "measures", "Ljava/util/ArrayList;", true)
  | 2 => ("TrackNights", "machines", "Ljava/util/ArrayList;", true)
  | 3 => ("TrackNights", "possessions", "Ljava/util/ArrayList;", true)
  | 4 => ("TrackNights", "unknown", "LTrackNights$Values;", true)
  | 5 => ("TrackNights", "trial", "LTrackNights$Section;", true)
  | 6 => ("TrackNights", "today", "I", false)
  | 7 => ("TrackNights", "heatNow", "I", false)
  | 8 => ("TrackNights", "cost", "I", false)
  | 9 => ("TrackNights", "risks", "I", false)
  | 10 => ("TrackNights", "breaks", "I", false)
  | 11 => ("TrackNights", "unsafeGangs", "I", false)
  | _ => ("TrackNights", "overruns", "I", false)
def tyX6 : Nat → FieldType := fun k => match k with
  | 0 => .array (.object "TrackNights$Section")
  | 1 => .object "java/util/ArrayList"
  | 2 => .object "java/util/ArrayList"
  | 3 => .object "java/util/ArrayList"
  | 4 => .object "TrackNights$Values"
  | 5 => .object "TrackNights$Section"
  | 6 => .int
  | 7 => .int
  | 8 => .int
  | 9 => .int
  | 10 => .int
  | 11 => .int
  | _ => .int
theorem nmX6 : ∀ a, a < 13 → ∀ b, b < 13 → a ≠ b → (TX6 a).2.1 ≠ (TX6 b).2.1 := by decide +kernel
theorem tyX6_ok : ∀ k, k < 13 → parseFieldDescriptor (TX6 k).2.2.1 = some (tyX6 k) := by decide +kernel
abbrev cX6_init : ByteArray := prog_1_method_1_code
def yX6_init : MethodName := ⟨RX6, "<init>", "()V"⟩
abbrev cX6_curve : ByteArray := prog_1_method_2_code
def yX6_curve : MethodName := ⟨RX6, "curve", "(IZ)Z"⟩
abbrev cX6_sign : ByteArray := prog_1_method_3_code
def yX6_sign : MethodName := ⟨RX6, "sign", "(II)I"⟩
abbrev cX6_pass : ByteArray := prog_1_method_4_code
def yX6_pass : MethodName := ⟨RX6, "pass", "(III)I"⟩
abbrev cX6_measure : ByteArray := prog_1_method_5_code
def yX6_measure : MethodName := ⟨RX6, "measure", "(IIII)I"⟩
abbrev cX6_machine : ByteArray := prog_1_method_7_code
def yX6_machine : MethodName := ⟨RX6, "machine", "(II)I"⟩
abbrev cX6_book : ByteArray := prog_1_method_9_code
def yX6_book : MethodName := ⟨RX6, "book", "(IIIII)I"⟩
abbrev cX6_work : ByteArray := prog_1_method_10_code
def yX6_work : MethodName := ⟨RX6, "work", "(III)I"⟩
abbrev cX6_cancel : ByteArray := prog_1_method_11_code
def yX6_cancel : MethodName := ⟨RX6, "cancel", "(I)I"⟩
abbrev cX6_mark : ByteArray := prog_1_method_12_code
def yX6_mark : MethodName := ⟨RX6, "mark", "(II)I"⟩
abbrev cX6_take : ByteArray := prog_1_method_13_code
def yX6_take : MethodName := ⟨RX6, "take", "(I)I"⟩
abbrev cX6_giveBack : ByteArray := prog_1_method_14_code
def yX6_giveBack : MethodName := ⟨RX6, "giveBack", "(I)I"⟩
abbrev cX6_walk : ByteArray := prog_1_method_15_code
def yX6_walk : MethodName := ⟨RX6, "walk", "(II)Z"⟩
abbrev cX6_ofSection : ByteArray := prog_1_method_16_code
def yX6_ofSection : MethodName := ⟨RX6, "ofSection", "(II)I"⟩
abbrev cX6_known : ByteArray := prog_1_method_17_code
def yX6_known : MethodName := ⟨RX6, "known", "(II)I"⟩
abbrev cX6_why : ByteArray := prog_1_method_18_code
def yX6_why : MethodName := ⟨RX6, "why", "(IZ)I"⟩
abbrev cX6_ofMachine : ByteArray := prog_1_method_19_code
def yX6_ofMachine : MethodName := ⟨RX6, "ofMachine", "(II)I"⟩
abbrev cX6_ofPossession : ByteArray := prog_1_method_20_code
def yX6_ofPossession : MethodName := ⟨RX6, "ofPossession", "(II)I"⟩
abbrev cX6_many : ByteArray := prog_1_method_21_code
def yX6_many : MethodName := ⟨RX6, "many", "(I)I"⟩
abbrev cX6_meanWear : ByteArray := prog_1_method_22_code
def yX6_meanWear : MethodName := ⟨RX6, "meanWear", "(I)D"⟩
abbrev cX6_couldSee : ByteArray := prog_1_method_23_code
def yX6_couldSee : MethodName := ⟨RX6, "couldSee", "(I)I"⟩
abbrev cX6_firstRisk : ByteArray := prog_1_method_24_code
def yX6_firstRisk : MethodName := ⟨RX6, "firstRisk", "(II)I"⟩
abbrev cX6_bestWork : ByteArray := prog_1_method_25_code
def yX6_bestWork : MethodName := ⟨RX6, "bestWork", "(III)I"⟩
abbrev cX6_freeDay : ByteArray := prog_1_method_26_code
def yX6_freeDay : MethodName := ⟨RX6, "freeDay", "(III)I"⟩
abbrev cX6_wouldOverrun : ByteArray := prog_1_method_27_code
def yX6_wouldOverrun : MethodName := ⟨RX6, "wouldOverrun", "(I)I"⟩
abbrev cX6_digest : ByteArray := prog_1_method_28_code
def yX6_digest : MethodName := ⟨RX6, "digest", "()J"⟩
abbrev cX6_digestSection : ByteArray := prog_1_method_29_code
def yX6_digestSection : MethodName := ⟨RX6, "digestSection", "(JI)J"⟩
abbrev cX6_checkSection : ByteArray := prog_1_method_30_code
def yX6_checkSection : MethodName := ⟨RX6, "checkSection", "(I)V"⟩
abbrev cX6_sectionAt : ByteArray := prog_1_method_31_code
def yX6_sectionAt : MethodName := ⟨RX6, "sectionAt", "(I)LTrackNights$Section;"⟩
abbrev cX6_machineAt : ByteArray := prog_1_method_32_code
def yX6_machineAt : MethodName := ⟨RX6, "machineAt", "(I)LTrackNights$Machine;"⟩
abbrev cX6_possessionAt : ByteArray := prog_1_method_33_code
def yX6_possessionAt : MethodName := ⟨RX6, "possessionAt", "(I)LTrackNights$Possession;"⟩
abbrev cX6_checkStretch : ByteArray := prog_1_method_34_code
def yX6_checkStretch : MethodName := ⟨RX6, "checkStretch", "(III)V"⟩
abbrev cX6_checkTrains : ByteArray := prog_1_method_35_code
def yX6_checkTrains : MethodName := ⟨RX6, "checkTrains", "(I)V"⟩
abbrev cX6_passDay : ByteArray := prog_1_method_36_code
def yX6_passDay : MethodName := ⟨RX6, "passDay", "(II)V"⟩
abbrev cX6_endNightsOf : ByteArray := prog_1_method_37_code
def yX6_endNightsOf : MethodName := ⟨RX6, "endNightsOf", "(I)V"⟩
abbrev cX6_breakIfCracked : ByteArray := prog_1_method_38_code
def yX6_breakIfCracked : MethodName := ⟨RX6, "breakIfCracked", "(LTrackNights$Section;)V"⟩
abbrev cX6_delayCost : ByteArray := prog_1_method_39_code
def yX6_delayCost : MethodName := ⟨RX6, "delayCost", "(II)I"⟩
abbrev cX6_knowingMeasure : ByteArray := prog_1_method_40_code
def yX6_knowingMeasure : MethodName := ⟨RX6, "knowingMeasure", "(I)I"⟩
abbrev cX6_knownValues : ByteArray := prog_1_method_41_code
def yX6_knownValues : MethodName := ⟨RX6, "knownValues", "(I)LTrackNights$Values;"⟩
abbrev cX6_isElsewhere : ByteArray := prog_1_method_43_code
def yX6_isElsewhere : MethodName := ⟨RX6, "isElsewhere", "(LTrackNights$Machine;LTrackNights$Possession;)Z"⟩
abbrev cX6_isFree : ByteArray := prog_1_method_44_code
def yX6_isFree : MethodName := ⟨RX6, "isFree", "(IIII)Z"⟩
abbrev cX6_isTaken : ByteArray := prog_1_method_45_code
def yX6_isTaken : MethodName := ⟨RX6, "isTaken", "(I)Z"⟩
abbrev cX6_signBeside : ByteArray := prog_1_method_46_code
def yX6_signBeside : MethodName := ⟨RX6, "signBeside", "(I)I"⟩
abbrev cX6_isWarned : ByteArray := prog_1_method_47_code
def yX6_isWarned : MethodName := ⟨RX6, "isWarned", "(III)Z"⟩
abbrev cX6_endNight : ByteArray := prog_1_method_48_code
def yX6_endNight : MethodName := ⟨RX6, "endNight", "(LTrackNights$Possession;I)V"⟩
abbrev cX6_carryOut : ByteArray := prog_1_method_49_code
def yX6_carryOut : MethodName := ⟨RX6, "carryOut", "(LTrackNights$Work;)V"⟩
abbrev cX6_hoursTaken : ByteArray := prog_1_method_50_code
def yX6_hoursTaken : MethodName := ⟨RX6, "hoursTaken", "(LTrackNights$Possession;)I"⟩
abbrev cX6_costBehind : ByteArray := prog_1_method_51_code
def yX6_costBehind : MethodName := ⟨RX6, "costBehind", "(LTrackNights$Section;III)I"⟩
abbrev cX6_countAligned : ByteArray := prog_1_method_52_code
def yX6_countAligned : MethodName := ⟨RX6, "countAligned", "()I"⟩
abbrev cX6_countPossessions : ByteArray := prog_1_method_53_code
def yX6_countPossessions : MethodName := ⟨RX6, "countPossessions", "(I)I"⟩
abbrev cX6_countTrueRisks : ByteArray := prog_1_method_54_code
def yX6_countTrueRisks : MethodName := ⟨RX6, "countTrueRisks", "()I"⟩
abbrev cX6_countKnownRisks : ByteArray := prog_1_method_55_code
def yX6_countKnownRisks : MethodName := ⟨RX6, "countKnownRisks", "()I"⟩
def RX7 : String := "TrackNightsModel"
def TX7 : u_T := fun k => match k with
  | _ => ("", "", "", false)
def tyX7 : Nat → FieldType := fun k => match k with
  | _ => .int
theorem nmX7 : ∀ a, a < 0 → ∀ b, b < 0 → a ≠ b → (TX7 a).2.1 ≠ (TX7 b).2.1 := by decide +kernel
theorem tyX7_ok : ∀ k, k < 0 → parseFieldDescriptor (TX7 k).2.2.1 = some (tyX7 k) := by decide +kernel
def RJx145de : String := "java/io/Serializable"
def TJx145de : u_T := fun k => match k with
  | _ => ("", "", "", false)
def tyJx145de : Nat → FieldType := fun k => match k with
  | _ => .int
theorem nmJx145de : ∀ a, a < 0 → ∀ b, b < 0 → a ≠ b → (TJx145de a).2.1 ≠ (TJx145de b).2.1 := by decide +kernel
theorem tyJx145de_ok : ∀ k, k < 0 → parseFieldDescriptor (TJx145de k).2.2.1 = some (tyJx145de k) := by decide +kernel
def RJx8e188 : String := "java/lang/Cloneable"
def TJx8e188 : u_T := fun k => match k with
  | _ => ("", "", "", false)
def tyJx8e188 : Nat → FieldType := fun k => match k with
  | _ => .int
theorem nmJx8e188 : ∀ a, a < 0 → ∀ b, b < 0 → a ≠ b → (TJx8e188 a).2.1 ≠ (TJx8e188 b).2.1 := by decide +kernel
theorem tyJx8e188_ok : ∀ k, k < 0 → parseFieldDescriptor (TJx8e188 k).2.2.1 = some (tyJx8e188 k) := by decide +kernel
def RJxab1ab : String := "java/lang/Iterable"
def TJxab1ab : u_T := fun k => match k with
  | _ => ("", "", "", false)
def tyJxab1ab : Nat → FieldType := fun k => match k with
  | _ => .int
theorem nmJxab1ab : ∀ a, a < 0 → ∀ b, b < 0 → a ≠ b → (TJxab1ab a).2.1 ≠ (TJxab1ab b).2.1 := by decide +kernel
theorem tyJxab1ab_ok : ∀ k, k < 0 → parseFieldDescriptor (TJxab1ab k).2.2.1 = some (tyJxab1ab k) := by decide +kernel
def RJ9 : String := "java/lang/Math"
def TJ9 : u_T := fun k => match k with
  | _ => ("", "", "", false)
def tyJ9 : Nat → FieldType := fun k => match k with
  | _ => .int
theorem nmJ9 : ∀ a, a < 0 → ∀ b, b < 0 → a ≠ b → (TJ9 a).2.1 ≠ (TJ9 b).2.1 := by decide +kernel
theorem tyJ9_ok : ∀ k, k < 0 → parseFieldDescriptor (TJ9 k).2.2.1 = some (tyJ9 k) := by decide +kernel
abbrev cJ9_max_7cf53 : ByteArray := prog_17_method_65_code
def yJ9_max_7cf53 : MethodName := ⟨RJ9, "max", "(II)I"⟩
abbrev cJ9_min_7cf53 : ByteArray := prog_17_method_69_code
def yJ9_min_7cf53 : MethodName := ⟨RJ9, "min", "(II)I"⟩
def RJ0 : String := "java/lang/String"
def TJ0 : u_T := fun k => match k with
  | _ => ("", "", "", false)
def tyJ0 : Nat → FieldType := fun k => match k with
  | _ => .int
theorem nmJ0 : ∀ a, a < 0 → ∀ b, b < 0 → a ≠ b → (TJ0 a).2.1 ≠ (TJ0 b).2.1 := by decide +kernel
theorem tyJ0_ok : ∀ k, k < 0 → parseFieldDescriptor (TJ0 k).2.2.1 = some (tyJ0 k) := by decide +kernel
def RJ10 : String := "java/lang/System"
def TJ10 : u_T := fun k => match k with
  | _ => ("", "", "", false)
def tyJ10 : Nat → FieldType := fun k => match k with
  | _ => .int
theorem nmJ10 : ∀ a, a < 0 → ∀ b, b < 0 → a ≠ b → (TJ10 a).2.1 ≠ (TJ10 b).2.1 := by decide +kernel
theorem tyJ10_ok : ∀ k, k < 0 → parseFieldDescriptor (TJ10 k).2.2.1 = some (tyJ10 k) := by decide +kernel
def RJxa1e45 : String := "java/util/AbstractCollection"
def TJxa1e45 : u_T := fun k => match k with
  | _ => ("", "", "", false)
def tyJxa1e45 : Nat → FieldType := fun k => match k with
  | _ => .int
theorem nmJxa1e45 : ∀ a, a < 0 → ∀ b, b < 0 → a ≠ b → (TJxa1e45 a).2.1 ≠ (TJxa1e45 b).2.1 := by decide +kernel
theorem tyJxa1e45_ok : ∀ k, k < 0 → parseFieldDescriptor (TJxa1e45 k).2.2.1 = some (tyJxa1e45 k) := by decide +kernel
abbrev cJxa1e45_init_da8c8 : ByteArray := prog_22_method_1_code
def yJxa1e45_init_da8c8 : MethodName := ⟨RJxa1e45, "<init>", "()V"⟩
def RJxc12de : String := "java/util/AbstractList"
def TJxc12de : u_T := fun k => match k with
  | _ => ("", "", "", false)
def tyJxc12de : Nat → FieldType := fun k => match k with
  | _ => .int
theorem nmJxc12de : ∀ a, a < 0 → ∀ b, b < 0 → a ≠ b → (TJxc12de a).2.1 ≠ (TJxc12de b).2.1 := by decide +kernel
theorem tyJxc12de_ok : ∀ k, k < 0 → parseFieldDescriptor (TJxc12de k).2.2.1 = some (tyJxc12de k) := by decide +kernel
abbrev cJxc12de_init_da8c8 : ByteArray := prog_23_method_1_code
def yJxc12de_init_da8c8 : MethodName := ⟨RJxc12de, "<init>", "()V"⟩
def RJx4a65c : String := "java/util/ArrayList"
def TJx4a65c : u_T := fun k => match k with
  | 0 => ("java/util/AbstractList", "modCount", "I", false)
  | 1 => ("java/util/ArrayList", "elementData", "[Ljava/lang/Object;", false)
  | _ => ("java/util/ArrayList", "size", "I", false)
def tyJx4a65c : Nat → FieldType := fun k => match k with
  | 0 => .int
  | 1 => .array (.object "java/lang/Object")
  | _ => .int
theorem nmJx4a65c : ∀ a, a < 3 → ∀ b, b < 3 → a ≠ b → (TJx4a65c a).2.1 ≠ (TJx4a65c b).2.1 := by decide +kernel
theorem tyJx4a65c_ok : ∀ k, k < 3 → parseFieldDescriptor (TJx4a65c k).2.2.1 = some (tyJx4a65c k) := by decide +kernel
abbrev cJx4a65c_init_da8c8 : ByteArray := prog_24_method_2_code
def yJx4a65c_init_da8c8 : MethodName := ⟨RJx4a65c, "<init>", "()V"⟩
abbrev cJx4a65c_grow_92f84 : ByteArray := prog_24_method_6_code
def yJx4a65c_grow_92f84 : MethodName := ⟨RJx4a65c, "grow", "(I)[Ljava/lang/Object;"⟩
abbrev cJx4a65c_grow_d5877 : ByteArray := prog_24_method_7_code
def yJx4a65c_grow_d5877 : MethodName := ⟨RJx4a65c, "grow", "()[Ljava/lang/Object;"⟩
abbrev cJx4a65c_size_8abf5 : ByteArray := prog_24_method_8_code
def yJx4a65c_size_8abf5 : MethodName := ⟨RJx4a65c, "size", "()I"⟩
abbrev cJx4a65c_elementData_915e3 : ByteArray := prog_24_method_18_code
def yJx4a65c_elementData_915e3 : MethodName := ⟨RJx4a65c, "elementData", "(I)Ljava/lang/Object;"⟩
abbrev cJx4a65c_get_915e3 : ByteArray := prog_24_method_20_code
def yJx4a65c_get_915e3 : MethodName := ⟨RJx4a65c, "get", "(I)Ljava/lang/Object;"⟩
abbrev cJx4a65c_add_72be8 : ByteArray := prog_24_method_24_code
def yJx4a65c_add_72be8 : MethodName := ⟨RJx4a65c, "add", "(Ljava/lang/Object;[Ljava/lang/Object;I)V"⟩
abbrev cJx4a65c_add_9ea2d : ByteArray := prog_24_method_25_code
def yJx4a65c_add_9ea2d : MethodName := ⟨RJx4a65c, "add", "(Ljava/lang/Object;)Z"⟩
def RJ7 : String := "java/util/Arrays"
def TJ7 : u_T := fun k => match k with
  | _ => ("", "", "", false)
def tyJ7 : Nat → FieldType := fun k => match k with
  | _ => .int
theorem nmJ7 : ∀ a, a < 0 → ∀ b, b < 0 → a ≠ b → (TJ7 a).2.1 ≠ (TJ7 b).2.1 := by decide +kernel
theorem tyJ7_ok : ∀ k, k < 0 → parseFieldDescriptor (TJ7 k).2.2.1 = some (tyJ7 k) := by decide +kernel
abbrev cJ7_copyOf_1904c : ByteArray := prog_25_method_119_code
def yJ7_copyOf_1904c : MethodName := ⟨RJ7, "copyOf", "([Ljava/lang/Object;I)[Ljava/lang/Object;"⟩
abbrev cJ7_copyOf_6403c : ByteArray := prog_25_method_120_code
def yJ7_copyOf_6403c : MethodName := ⟨RJ7, "copyOf", "([Ljava/lang/Object;ILjava/lang/Class;)[Ljava/lang/Object;"⟩
def RJx5ef63 : String := "java/util/Collection"
def TJx5ef63 : u_T := fun k => match k with
  | _ => ("", "", "", false)
def tyJx5ef63 : Nat → FieldType := fun k => match k with
  | _ => .int
theorem nmJx5ef63 : ∀ a, a < 0 → ∀ b, b < 0 → a ≠ b → (TJx5ef63 a).2.1 ≠ (TJx5ef63 b).2.1 := by decide +kernel
theorem tyJx5ef63_ok : ∀ k, k < 0 → parseFieldDescriptor (TJx5ef63 k).2.2.1 = some (tyJx5ef63 k) := by decide +kernel
def RJxbd725 : String := "java/util/List"
def TJxbd725 : u_T := fun k => match k with
  | _ => ("", "", "", false)
def tyJxbd725 : Nat → FieldType := fun k => match k with
  | _ => .int
theorem nmJxbd725 : ∀ a, a < 0 → ∀ b, b < 0 → a ≠ b → (TJxbd725 a).2.1 ≠ (TJxbd725 b).2.1 := by decide +kernel
theorem tyJxbd725_ok : ∀ k, k < 0 → parseFieldDescriptor (TJxbd725 k).2.2.1 = some (tyJxbd725 k) := by decide +kernel
def RJ15 : String := "java/util/Objects"
def TJ15 : u_T := fun k => match k with
  | _ => ("", "", "", false)
def tyJ15 : Nat → FieldType := fun k => match k with
  | _ => .int
theorem nmJ15 : ∀ a, a < 0 → ∀ b, b < 0 → a ≠ b → (TJ15 a).2.1 ≠ (TJ15 b).2.1 := by decide +kernel
theorem tyJ15_ok : ∀ k, k < 0 → parseFieldDescriptor (TJ15 k).2.2.1 = some (tyJ15 k) := by decide +kernel
abbrev cJ15_checkIndex_7cf53 : ByteArray := prog_28_method_17_code
def yJ15_checkIndex_7cf53 : MethodName := ⟨RJ15, "checkIndex", "(II)I"⟩
def RJxf0a74 : String := "java/util/RandomAccess"
def TJxf0a74 : u_T := fun k => match k with
  | _ => ("", "", "", false)
def tyJxf0a74 : Nat → FieldType := fun k => match k with
  | _ => .int
theorem nmJxf0a74 : ∀ a, a < 0 → ∀ b, b < 0 → a ≠ b → (TJxf0a74 a).2.1 ≠ (TJxf0a74 b).2.1 := by decide +kernel
theorem tyJxf0a74_ok : ∀ k, k < 0 → parseFieldDescriptor (TJxf0a74 k).2.2.1 = some (tyJxf0a74 k) := by decide +kernel
def RJxa66e6 : String := "java/util/SequencedCollection"
def TJxa66e6 : u_T := fun k => match k with
  | _ => ("", "", "", false)
def tyJxa66e6 : Nat → FieldType := fun k => match k with
  | _ => .int
theorem nmJxa66e6 : ∀ a, a < 0 → ∀ b, b < 0 → a ≠ b → (TJxa66e6 a).2.1 ≠ (TJxa66e6 b).2.1 := by decide +kernel
theorem tyJxa66e6_ok : ∀ k, k < 0 → parseFieldDescriptor (TJxa66e6 k).2.2.1 = some (tyJxa66e6 k) := by decide +kernel
def RJ8 : String := "jdk/internal/util/ArraysSupport"
def TJ8 : u_T := fun k => match k with
  | _ => ("", "", "", false)
def tyJ8 : Nat → FieldType := fun k => match k with
  | _ => .int
theorem nmJ8 : ∀ a, a < 0 → ∀ b, b < 0 → a ≠ b → (TJ8 a).2.1 ≠ (TJ8 b).2.1 := by decide +kernel
theorem tyJ8_ok : ∀ k, k < 0 → parseFieldDescriptor (TJ8 k).2.2.1 = some (tyJ8 k) := by decide +kernel
abbrev cJ8_newLength_cabcc : ByteArray := prog_31_method_27_code
def yJ8_newLength_cabcc : MethodName := ⟨RJ8, "newLength", "(III)I"⟩
abbrev cJ8_hugeLength_7cf53 : ByteArray := prog_31_method_28_code
def yJ8_hugeLength_7cf53 : MethodName := ⟨RJ8, "hugeLength", "(II)I"⟩
def RJ3 : String := "jdk/internal/util/Preconditions"
def TJ3 : u_T := fun k => match k with
  | _ => ("", "", "", false)
def tyJ3 : Nat → FieldType := fun k => match k with
  | _ => .int
theorem nmJ3 : ∀ a, a < 0 → ∀ b, b < 0 → a ≠ b → (TJ3 a).2.1 ≠ (TJ3 b).2.1 := by decide +kernel
theorem tyJ3_ok : ∀ k, k < 0 → parseFieldDescriptor (TJ3 k).2.2.1 = some (tyJ3 k) := by decide +kernel
abbrev cJ3_checkIndex_8e157 : ByteArray := prog_32_method_11_code
def yJ3_checkIndex_8e157 : MethodName := ⟨RJ3, "checkIndex", "(IILjava/util/function/BiFunction;)I"⟩
def RL : String := "TrackNightsLaw"
abbrev cL_below : ByteArray := method_2_code
def yL_below : MethodName := ⟨RL, "below", "(II)I"⟩
abbrev cL_cell : ByteArray := method_3_code
def yL_cell : MethodName := ⟨RL, "cell", "([II)I"⟩
abbrev cL_law : ByteArray := code
def yL_law : MethodName := ⟨RL, "law", "([I)Z"⟩
abbrev cL_keep : ByteArray := method_5_code
def yL_keep : MethodName := ⟨RL, "keep", "(LTrackNights;[[I)V"⟩
abbrev cL_work : ByteArray := method_6_code
def yL_work : MethodName := ⟨RL, "work", "(LTrackNights;III)I"⟩
abbrev cL_isStep : ByteArray := method_7_code
def yL_isStep : MethodName := ⟨RL, "isStep", "(LTrackNights;[[IZZII)Z"⟩
abbrev cL_areSteps : ByteArray := method_8_code
def yL_areSteps : MethodName := ⟨RL, "areSteps", "(LTrackNights;[II)Z"⟩
abbrev cL_isSo : ByteArray := method_9_code
def yL_isSo : MethodName := ⟨RL, "isSo", "(LTrackNights;II)Z"⟩
abbrev vwCl : List vw_C := [(RJx4a65c, TJx4a65c, 3), (RJx4a65c, TJx4a65c, 3), (RX0, TX0, 4), (RX1, TX1, 4), (RX2, TX2, 10), (RX3, TX3, 5), (RX4, TX4, 3), (RX5, TX5, 3), (RX6, TX6, 13)]
