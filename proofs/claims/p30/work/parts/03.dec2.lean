theorem dX6_checkStretch_67 : decode cX6_checkStretch 67 = .ok (.return_, 1) := by decide +kernel
theorem dX6_checkTrains_0 : decode cX6_checkTrains 0 = .ok (.iload_n 1, 1) := by decide +kernel
theorem dX6_checkTrains_1 : decode cX6_checkTrains 1 = .ok (.ifCond .lt 9, 3) := by decide +kernel
theorem dX6_checkTrains_4 : decode cX6_checkTrains 4 = .ok (.iload_n 1, 1) := by decide +kernel
theorem dX6_checkTrains_5 : decode cX6_checkTrains 5 = .ok (.bipush 40, 2) := by decide +kernel
theorem dX6_checkTrains_7 : decode cX6_checkTrains 7 = .ok (.if_icmp .le 14, 3) := by decide +kernel
theorem dX6_checkTrains_10 : decode cX6_checkTrains 10 = .ok (.new 72, 3) := by decide +kernel
theorem dX6_checkTrains_13 : decode cX6_checkTrains 13 = .ok (.dup, 1) := by decide +kernel
theorem dX6_checkTrains_14 : decode cX6_checkTrains 14 = .ok (.ldc_w 428, 3) := by decide +kernel
theorem dX6_checkTrains_17 : decode cX6_checkTrains 17 = .ok (.invokespecial 76, 3) := by decide +kernel
theorem dX6_checkTrains_20 : decode cX6_checkTrains 20 = .ok (.athrow, 1) := by decide +kernel
theorem dX6_checkTrains_21 : decode cX6_checkTrains 21 = .ok (.return_, 1) := by decide +kernel
theorem dX6_passDay_0 : decode cX6_passDay 0 = .ok (.aload_n 0, 1) := by decide +kernel
theorem dX6_passDay_1 : decode cX6_passDay 1 = .ok (.aload_n 0, 1) := by decide +kernel
theorem dX6_passDay_2 : decode cX6_passDay 2 = .ok (.getfield 42, 3) := by decide +kernel
theorem dX6_passDay_5 : decode cX6_passDay 5 = .ok (.invokevirtual 430, 3) := by decide +kernel
theorem dX6_passDay_8 : decode cX6_passDay 8 = .ok (.aload_n 0, 1) := by decide +kernel
theorem dX6_passDay_9 : decode cX6_passDay 9 = .ok (.dup, 1) := by decide +kernel
theorem dX6_passDay_10 : decode cX6_passDay 10 = .ok (.getfield 42, 3) := by decide +kernel
theorem dX6_passDay_13 : decode cX6_passDay 13 = .ok (.iconst 1, 1) := by decide +kernel
theorem dX6_passDay_14 : decode cX6_passDay 14 = .ok (.iadd, 1) := by decide +kernel
theorem dX6_passDay_15 : decode cX6_passDay 15 = .ok (.putfield 42, 3) := by decide +kernel
theorem dX6_passDay_18 : decode cX6_passDay 18 = .ok (.aload_n 0, 1) := by decide +kernel
theorem dX6_passDay_19 : decode cX6_passDay 19 = .ok (.iload_n 2, 1) := by decide +kernel
theorem dX6_passDay_20 : decode cX6_passDay 20 = .ok (.putfield 46, 3) := by decide +kernel
theorem dX6_passDay_23 : decode cX6_passDay 23 = .ok (.iconst 0, 1) := by decide +kernel
theorem dX6_passDay_24 : decode cX6_passDay 24 = .ok (.istore_n 3, 1) := by decide +kernel
theorem dX6_passDay_25 : decode cX6_passDay 25 = .ok (.iload_n 3, 1) := by decide +kernel
theorem dX6_passDay_26 : decode cX6_passDay 26 = .ok (.bipush 20, 2) := by decide +kernel
theorem dX6_passDay_28 : decode cX6_passDay 28 = .ok (.if_icmp .ge 77, 3) := by decide +kernel
theorem dX6_passDay_31 : decode cX6_passDay 31 = .ok (.aload_n 0, 1) := by decide +kernel
theorem dX6_passDay_32 : decode cX6_passDay 32 = .ok (.getfield 11, 3) := by decide +kernel
theorem dX6_passDay_35 : decode cX6_passDay 35 = .ok (.iload_n 3, 1) := by decide +kernel
theorem dX6_passDay_36 : decode cX6_passDay 36 = .ok (.aaload, 1) := by decide +kernel
theorem dX6_passDay_37 : decode cX6_passDay 37 = .ok (.iload_n 1, 1) := by decide +kernel
theorem dX6_passDay_38 : decode cX6_passDay 38 = .ok (.invokevirtual 353, 3) := by decide +kernel
theorem dX6_passDay_41 : decode cX6_passDay 41 = .ok (.aload_n 0, 1) := by decide +kernel
theorem dX6_passDay_42 : decode cX6_passDay 42 = .ok (.dup, 1) := by decide +kernel
theorem dX6_passDay_43 : decode cX6_passDay 43 = .ok (.getfield 49, 3) := by decide +kernel
theorem dX6_passDay_46 : decode cX6_passDay 46 = .ok (.iload_n 1, 1) := by decide +kernel
theorem dX6_passDay_47 : decode cX6_passDay 47 = .ok (.aload_n 0, 1) := by decide +kernel
theorem dX6_passDay_48 : decode cX6_passDay 48 = .ok (.getfield 11, 3) := by decide +kernel
theorem dX6_passDay_51 : decode cX6_passDay 51 = .ok (.iload_n 3, 1) := by decide +kernel
theorem dX6_passDay_52 : decode cX6_passDay 52 = .ok (.aaload, 1) := by decide +kernel
theorem dX6_passDay_53 : decode cX6_passDay 53 = .ok (.getfield 79, 3) := by decide +kernel
theorem dX6_passDay_56 : decode cX6_passDay 56 = .ok (.invokestatic 433, 3) := by decide +kernel
theorem dX6_passDay_59 : decode cX6_passDay 59 = .ok (.iadd, 1) := by decide +kernel
theorem dX6_passDay_60 : decode cX6_passDay 60 = .ok (.putfield 49, 3) := by decide +kernel
theorem dX6_passDay_63 : decode cX6_passDay 63 = .ok (.aload_n 0, 1) := by decide +kernel
theorem dX6_passDay_64 : decode cX6_passDay 64 = .ok (.aload_n 0, 1) := by decide +kernel
theorem dX6_passDay_65 : decode cX6_passDay 65 = .ok (.getfield 11, 3) := by decide +kernel
theorem dX6_passDay_68 : decode cX6_passDay 68 = .ok (.iload_n 3, 1) := by decide +kernel
theorem dX6_passDay_69 : decode cX6_passDay 69 = .ok (.aaload, 1) := by decide +kernel
theorem dX6_passDay_70 : decode cX6_passDay 70 = .ok (.invokevirtual 436, 3) := by decide +kernel
theorem dX6_passDay_73 : decode cX6_passDay 73 = .ok (.aload_n 0, 1) := by decide +kernel
theorem dX6_passDay_74 : decode cX6_passDay 74 = .ok (.getfield 11, 3) := by decide +kernel
theorem dX6_passDay_77 : decode cX6_passDay 77 = .ok (.iload_n 3, 1) := by decide +kernel
theorem dX6_passDay_78 : decode cX6_passDay 78 = .ok (.aaload, 1) := by decide +kernel
theorem dX6_passDay_79 : decode cX6_passDay 79 = .ok (.aload_n 0, 1) := by decide +kernel
theorem dX6_passDay_80 : decode cX6_passDay 80 = .ok (.getfield 46, 3) := by decide +kernel
theorem dX6_passDay_83 : decode cX6_passDay 83 = .ok (.invokevirtual 350, 3) := by decide +kernel
theorem dX6_passDay_86 : decode cX6_passDay 86 = .ok (.ifCond .eq 13, 3) := by decide +kernel
theorem dX6_passDay_89 : decode cX6_passDay 89 = .ok (.aload_n 0, 1) := by decide +kernel
theorem dX6_passDay_90 : decode cX6_passDay 90 = .ok (.dup, 1) := by decide +kernel
theorem dX6_passDay_91 : decode cX6_passDay 91 = .ok (.getfield 52, 3) := by decide +kernel
theorem dX6_passDay_94 : decode cX6_passDay 94 = .ok (.iconst 1, 1) := by decide +kernel
theorem dX6_passDay_95 : decode cX6_passDay 95 = .ok (.iadd, 1) := by decide +kernel
theorem dX6_passDay_96 : decode cX6_passDay 96 = .ok (.putfield 52, 3) := by decide +kernel
theorem dX6_passDay_99 : decode cX6_passDay 99 = .ok (.iinc 3 1, 3) := by decide +kernel
theorem dX6_passDay_102 : decode cX6_passDay 102 = .ok (.goto (-77), 3) := by decide +kernel
theorem dX6_passDay_105 : decode cX6_passDay 105 = .ok (.return_, 1) := by decide +kernel
theorem dX6_endNightsOf_0 : decode cX6_endNightsOf 0 = .ok (.iconst 0, 1) := by decide +kernel
theorem dX6_endNightsOf_1 : decode cX6_endNightsOf 1 = .ok (.istore_n 2, 1) := by decide +kernel
theorem dX6_endNightsOf_2 : decode cX6_endNightsOf 2 = .ok (.iload_n 2, 1) := by decide +kernel
theorem dX6_endNightsOf_3 : decode cX6_endNightsOf 3 = .ok (.aload_n 0, 1) := by decide +kernel
theorem dX6_endNightsOf_4 : decode cX6_endNightsOf 4 = .ok (.getfield 25, 3) := by decide +kernel
theorem dX6_endNightsOf_7 : decode cX6_endNightsOf 7 = .ok (.invokevirtual 104, 3) := by decide +kernel
theorem dX6_endNightsOf_10 : decode cX6_endNightsOf 10 = .ok (.if_icmp .ge 66, 3) := by decide +kernel
theorem dX6_endNightsOf_13 : decode cX6_endNightsOf 13 = .ok (.aload_n 0, 1) := by decide +kernel
theorem dX6_endNightsOf_14 : decode cX6_endNightsOf 14 = .ok (.getfield 25, 3) := by decide +kernel
theorem dX6_endNightsOf_17 : decode cX6_endNightsOf 17 = .ok (.iload_n 2, 1) := by decide +kernel
theorem dX6_endNightsOf_18 : decode cX6_endNightsOf 18 = .ok (.invokevirtual 130, 3) := by decide +kernel
theorem dX6_endNightsOf_21 : decode cX6_endNightsOf 21 = .ok (.checkcast 176, 3) := by decide +kernel
theorem dX6_endNightsOf_24 : decode cX6_endNightsOf 24 = .ok (.astore_n 3, 1) := by decide +kernel
theorem dX6_endNightsOf_25 : decode cX6_endNightsOf 25 = .ok (.aload_n 3, 1) := by decide +kernel
theorem dX6_endNightsOf_26 : decode cX6_endNightsOf 26 = .ok (.getfield 227, 3) := by decide +kernel
theorem dX6_endNightsOf_29 : decode cX6_endNightsOf 29 = .ok (.iload_n 1, 1) := by decide +kernel
theorem dX6_endNightsOf_30 : decode cX6_endNightsOf 30 = .ok (.if_icmp .ne 18, 3) := by decide +kernel
theorem dX6_endNightsOf_33 : decode cX6_endNightsOf 33 = .ok (.aload_n 3, 1) := by decide +kernel
theorem dX6_endNightsOf_34 : decode cX6_endNightsOf 34 = .ok (.getfield 191, 3) := by decide +kernel
theorem dX6_endNightsOf_37 : decode cX6_endNightsOf 37 = .ok (.ifCond .ne 11, 3) := by decide +kernel
theorem dX6_endNightsOf_40 : decode cX6_endNightsOf 40 = .ok (.aload_n 3, 1) := by decide +kernel
theorem dX6_endNightsOf_41 : decode cX6_endNightsOf 41 = .ok (.iconst 3, 1) := by decide +kernel
theorem dX6_endNightsOf_42 : decode cX6_endNightsOf 42 = .ok (.putfield 191, 3) := by decide +kernel
theorem dX6_endNightsOf_45 : decode cX6_endNightsOf 45 = .ok (.goto 25, 3) := by decide +kernel
theorem dX6_endNightsOf_48 : decode cX6_endNightsOf 48 = .ok (.aload_n 3, 1) := by decide +kernel
theorem dX6_endNightsOf_49 : decode cX6_endNightsOf 49 = .ok (.getfield 227, 3) := by decide +kernel
theorem dX6_endNightsOf_52 : decode cX6_endNightsOf 52 = .ok (.iload_n 1, 1) := by decide +kernel
theorem dX6_endNightsOf_53 : decode cX6_endNightsOf 53 = .ok (.if_icmp .ne 17, 3) := by decide +kernel
theorem dX6_endNightsOf_56 : decode cX6_endNightsOf 56 = .ok (.aload_n 3, 1) := by decide +kernel
theorem dX6_endNightsOf_57 : decode cX6_endNightsOf 57 = .ok (.getfield 191, 3) := by decide +kernel
theorem dX6_endNightsOf_60 : decode cX6_endNightsOf 60 = .ok (.iconst 1, 1) := by decide +kernel
theorem dX6_endNightsOf_61 : decode cX6_endNightsOf 61 = .ok (.if_icmp .ne 9, 3) := by decide +kernel
theorem dX6_endNightsOf_64 : decode cX6_endNightsOf 64 = .ok (.aload_n 0, 1) := by decide +kernel
theorem dX6_endNightsOf_65 : decode cX6_endNightsOf 65 = .ok (.aload_n 3, 1) := by decide +kernel
theorem dX6_endNightsOf_66 : decode cX6_endNightsOf 66 = .ok (.iconst 2, 1) := by decide +kernel
theorem dX6_endNightsOf_67 : decode cX6_endNightsOf 67 = .ok (.invokevirtual 255, 3) := by decide +kernel
theorem dX6_endNightsOf_70 : decode cX6_endNightsOf 70 = .ok (.iinc 2 1, 3) := by decide +kernel
theorem dX6_endNightsOf_73 : decode cX6_endNightsOf 73 = .ok (.goto (-71), 3) := by decide +kernel
theorem dX6_endNightsOf_76 : decode cX6_endNightsOf 76 = .ok (.return_, 1) := by decide +kernel
theorem dX6_breakIfCracked_0 : decode cX6_breakIfCracked 0 = .ok (.aload_n 1, 1) := by decide +kernel
theorem dX6_breakIfCracked_1 : decode cX6_breakIfCracked 1 = .ok (.getfield 114, 3) := by decide +kernel
theorem dX6_breakIfCracked_4 : decode cX6_breakIfCracked 4 = .ok (.getfield 277, 3) := by decide +kernel
theorem dX6_breakIfCracked_7 : decode cX6_breakIfCracked 7 = .ok (.bipush 60, 2) := by decide +kernel
theorem dX6_breakIfCracked_9 : decode cX6_breakIfCracked 9 = .ok (.if_icmp .lt 25, 3) := by decide +kernel
theorem dX6_breakIfCracked_12 : decode cX6_breakIfCracked 12 = .ok (.aload_n 1, 1) := by decide +kernel
theorem dX6_breakIfCracked_13 : decode cX6_breakIfCracked 13 = .ok (.getfield 79, 3) := by decide +kernel
theorem dX6_breakIfCracked_16 : decode cX6_breakIfCracked 16 = .ok (.ifCond .le 18, 3) := by decide +kernel
theorem dX6_breakIfCracked_19 : decode cX6_breakIfCracked 19 = .ok (.aload_n 1, 1) := by decide +kernel
theorem dX6_breakIfCracked_20 : decode cX6_breakIfCracked 20 = .ok (.iconst 0, 1) := by decide +kernel
theorem dX6_breakIfCracked_21 : decode cX6_breakIfCracked 21 = .ok (.putfield 79, 3) := by decide +kernel
theorem dX6_breakIfCracked_24 : decode cX6_breakIfCracked 24 = .ok (.aload_n 0, 1) := by decide +kernel
theorem dX6_breakIfCracked_25 : decode cX6_breakIfCracked 25 = .ok (.dup, 1) := by decide +kernel
theorem dX6_breakIfCracked_26 : decode cX6_breakIfCracked 26 = .ok (.getfield 55, 3) := by decide +kernel
theorem dX6_breakIfCracked_29 : decode cX6_breakIfCracked 29 = .ok (.iconst 1, 1) := by decide +kernel
theorem dX6_breakIfCracked_30 : decode cX6_breakIfCracked 30 = .ok (.iadd, 1) := by decide +kernel
theorem dX6_breakIfCracked_31 : decode cX6_breakIfCracked 31 = .ok (.putfield 55, 3) := by decide +kernel
theorem dX6_breakIfCracked_34 : decode cX6_breakIfCracked 34 = .ok (.return_, 1) := by decide +kernel
theorem dX6_delayCost_0 : decode cX6_delayCost 0 = .ok (.iload_n 0, 1) := by decide +kernel
theorem dX6_delayCost_1 : decode cX6_delayCost 1 = .ok (.sipush 160, 3) := by decide +kernel
theorem dX6_delayCost_4 : decode cX6_delayCost 4 = .ok (.iload_n 1, 1) := by decide +kernel
theorem dX6_delayCost_5 : decode cX6_delayCost 5 = .ok (.isub, 1) := by decide +kernel
theorem dX6_delayCost_6 : decode cX6_delayCost 6 = .ok (.imul, 1) := by decide +kernel
theorem dX6_delayCost_7 : decode cX6_delayCost 7 = .ok (.bipush 80, 2) := by decide +kernel
theorem dX6_delayCost_9 : decode cX6_delayCost 9 = .ok (.idiv, 1) := by decide +kernel
theorem dX6_delayCost_10 : decode cX6_delayCost 10 = .ok (.ireturn, 1) := by decide +kernel
theorem dX6_knowingMeasure_0 : decode cX6_knowingMeasure 0 = .ok (.aload_n 0, 1) := by decide +kernel
theorem dX6_knowingMeasure_1 : decode cX6_knowingMeasure 1 = .ok (.getfield 18, 3) := by decide +kernel
theorem dX6_knowingMeasure_4 : decode cX6_knowingMeasure 4 = .ok (.invokevirtual 104, 3) := by decide +kernel
theorem dX6_knowingMeasure_7 : decode cX6_knowingMeasure 7 = .ok (.iconst 1, 1) := by decide +kernel
theorem dX6_knowingMeasure_8 : decode cX6_knowingMeasure 8 = .ok (.isub, 1) := by decide +kernel
theorem dX6_knowingMeasure_9 : decode cX6_knowingMeasure 9 = .ok (.istore_n 2, 1) := by decide +kernel
theorem dX6_knowingMeasure_10 : decode cX6_knowingMeasure 10 = .ok (.iload_n 2, 1) := by decide +kernel
theorem dX6_knowingMeasure_11 : decode cX6_knowingMeasure 11 = .ok (.ifCond .lt 29, 3) := by decide +kernel
theorem dX6_knowingMeasure_14 : decode cX6_knowingMeasure 14 = .ok (.aload_n 0, 1) := by decide +kernel
theorem dX6_knowingMeasure_15 : decode cX6_knowingMeasure 15 = .ok (.getfield 18, 3) := by decide +kernel
theorem dX6_knowingMeasure_18 : decode cX6_knowingMeasure 18 = .ok (.iload_n 2, 1) := by decide +kernel
theorem dX6_knowingMeasure_19 : decode cX6_knowingMeasure 19 = .ok (.invokevirtual 130, 3) := by decide +kernel
theorem dX6_knowingMeasure_22 : decode cX6_knowingMeasure 22 = .ok (.checkcast 110, 3) := by decide +kernel
theorem dX6_knowingMeasure_25 : decode cX6_knowingMeasure 25 = .ok (.iload_n 1, 1) := by decide +kernel
theorem dX6_knowingMeasure_26 : decode cX6_knowingMeasure 26 = .ok (.invokevirtual 439, 3) := by decide +kernel
theorem dX6_knowingMeasure_29 : decode cX6_knowingMeasure 29 = .ok (.ifnull 5, 3) := by decide +kernel
theorem dX6_knowingMeasure_32 : decode cX6_knowingMeasure 32 = .ok (.iload_n 2, 1) := by decide +kernel
theorem dX6_knowingMeasure_33 : decode cX6_knowingMeasure 33 = .ok (.ireturn, 1) := by decide +kernel
theorem dX6_knowingMeasure_34 : decode cX6_knowingMeasure 34 = .ok (.iinc 2 (-1), 3) := by decide +kernel
theorem dX6_knowingMeasure_37 : decode cX6_knowingMeasure 37 = .ok (.goto (-27), 3) := by decide +kernel
theorem dX6_knowingMeasure_40 : decode cX6_knowingMeasure 40 = .ok (.iconst (-1), 1) := by decide +kernel
theorem dX6_knowingMeasure_41 : decode cX6_knowingMeasure 41 = .ok (.ireturn, 1) := by decide +kernel
theorem dX6_knownValues_0 : decode cX6_knownValues 0 = .ok (.aload_n 0, 1) := by decide +kernel
theorem dX6_knownValues_1 : decode cX6_knownValues 1 = .ok (.iload_n 1, 1) := by decide +kernel
theorem dX6_knownValues_2 : decode cX6_knownValues 2 = .ok (.invokevirtual 301, 3) := by decide +kernel
theorem dX6_knownValues_5 : decode cX6_knownValues 5 = .ok (.istore_n 2, 1) := by decide +kernel
theorem dX6_knownValues_6 : decode cX6_knownValues 6 = .ok (.iload_n 2, 1) := by decide +kernel
theorem dX6_knownValues_7 : decode cX6_knownValues 7 = .ok (.ifCond .lt 14, 3) := by decide +kernel
theorem dX6_knownValues_10 : decode cX6_knownValues 10 = .ok (.iload_n 2, 1) := by decide +kernel
theorem dX6_knownValues_11 : decode cX6_knownValues 11 = .ok (.aload_n 0, 1) := by decide +kernel
theorem dX6_knownValues_12 : decode cX6_knownValues 12 = .ok (.getfield 18, 3) := by decide +kernel
theorem dX6_knownValues_15 : decode cX6_knownValues 15 = .ok (.invokevirtual 104, 3) := by decide +kernel
theorem dX6_knownValues_18 : decode cX6_knownValues 18 = .ok (.if_icmp .lt 8, 3) := by decide +kernel
theorem dX6_knownValues_21 : decode cX6_knownValues 21 = .ok (.aload_n 0, 1) := by decide +kernel
theorem dX6_knownValues_22 : decode cX6_knownValues 22 = .ok (.getfield 33, 3) := by decide +kernel
theorem dX6_knownValues_25 : decode cX6_knownValues 25 = .ok (.areturn, 1) := by decide +kernel
theorem dX6_knownValues_26 : decode cX6_knownValues 26 = .ok (.aload_n 0, 1) := by decide +kernel
theorem dX6_knownValues_27 : decode cX6_knownValues 27 = .ok (.getfield 18, 3) := by decide +kernel
theorem dX6_knownValues_30 : decode cX6_knownValues 30 = .ok (.iload_n 2, 1) := by decide +kernel
theorem dX6_knownValues_31 : decode cX6_knownValues 31 = .ok (.invokevirtual 130, 3) := by decide +kernel
theorem dX6_knownValues_34 : decode cX6_knownValues 34 = .ok (.checkcast 110, 3) := by decide +kernel
theorem dX6_knownValues_37 : decode cX6_knownValues 37 = .ok (.iload_n 1, 1) := by decide +kernel
theorem dX6_knownValues_38 : decode cX6_knownValues 38 = .ok (.invokevirtual 439, 3) := by decide +kernel
theorem dX6_knownValues_41 : decode cX6_knownValues 41 = .ok (.astore_n 3, 1) := by decide +kernel
theorem dX6_knownValues_42 : decode cX6_knownValues 42 = .ok (.aload_n 3, 1) := by decide +kernel
theorem dX6_knownValues_43 : decode cX6_knownValues 43 = .ok (.ifnonnull 10, 3) := by decide +kernel
theorem dX6_knownValues_46 : decode cX6_knownValues 46 = .ok (.aload_n 0, 1) := by decide +kernel
theorem dX6_knownValues_47 : decode cX6_knownValues 47 = .ok (.getfield 33, 3) := by decide +kernel
theorem dX6_knownValues_50 : decode cX6_knownValues 50 = .ok (.goto 4, 3) := by decide +kernel
theorem dX6_knownValues_53 : decode cX6_knownValues 53 = .ok (.aload_n 3, 1) := by decide +kernel
theorem dX6_knownValues_54 : decode cX6_knownValues 54 = .ok (.areturn, 1) := by decide +kernel
theorem dX6_isElsewhere_0 : decode cX6_isElsewhere 0 = .ok (.iconst 0, 1) := by decide +kernel
theorem dX6_isElsewhere_1 : decode cX6_isElsewhere 1 = .ok (.istore_n 3, 1) := by decide +kernel
theorem dX6_isElsewhere_2 : decode cX6_isElsewhere 2 = .ok (.iload_n 3, 1) := by decide +kernel
theorem dX6_isElsewhere_3 : decode cX6_isElsewhere 3 = .ok (.aload_n 0, 1) := by decide +kernel
theorem dX6_isElsewhere_4 : decode cX6_isElsewhere 4 = .ok (.getfield 25, 3) := by decide +kernel
theorem dX6_isElsewhere_7 : decode cX6_isElsewhere 7 = .ok (.invokevirtual 104, 3) := by decide +kernel
theorem dX6_isElsewhere_10 : decode cX6_isElsewhere 10 = .ok (.if_icmp .ge 59, 3) := by decide +kernel
theorem dX6_isElsewhere_13 : decode cX6_isElsewhere 13 = .ok (.aload_n 0, 1) := by decide +kernel
theorem dX6_isElsewhere_14 : decode cX6_isElsewhere 14 = .ok (.getfield 25, 3) := by decide +kernel
theorem dX6_isElsewhere_17 : decode cX6_isElsewhere 17 = .ok (.iload_n 3, 1) := by decide +kernel
theorem dX6_isElsewhere_18 : decode cX6_isElsewhere 18 = .ok (.invokevirtual 130, 3) := by decide +kernel
theorem dX6_isElsewhere_21 : decode cX6_isElsewhere 21 = .ok (.checkcast 176, 3) := by decide +kernel
theorem dX6_isElsewhere_24 : decode cX6_isElsewhere 24 = .ok (.astore 4, 2) := by decide +kernel
theorem dX6_isElsewhere_26 : decode cX6_isElsewhere 26 = .ok (.aload 4, 2) := by decide +kernel
theorem dX6_isElsewhere_28 : decode cX6_isElsewhere 28 = .ok (.aload_n 2, 1) := by decide +kernel
theorem dX6_isElsewhere_29 : decode cX6_isElsewhere 29 = .ok (.if_acmp .eq 34, 3) := by decide +kernel
theorem dX6_isElsewhere_32 : decode cX6_isElsewhere 32 = .ok (.aload 4, 2) := by decide +kernel
theorem dX6_isElsewhere_34 : decode cX6_isElsewhere 34 = .ok (.getfield 227, 3) := by decide +kernel
theorem dX6_isElsewhere_37 : decode cX6_isElsewhere 37 = .ok (.aload_n 2, 1) := by decide +kernel
theorem dX6_isElsewhere_38 : decode cX6_isElsewhere 38 = .ok (.getfield 227, 3) := by decide +kernel
theorem dX6_isElsewhere_41 : decode cX6_isElsewhere 41 = .ok (.if_icmp .ne 22, 3) := by decide +kernel
theorem dX6_isElsewhere_44 : decode cX6_isElsewhere 44 = .ok (.aload 4, 2) := by decide +kernel
theorem dX6_isElsewhere_46 : decode cX6_isElsewhere 46 = .ok (.invokevirtual 362, 3) := by decide +kernel
theorem dX6_isElsewhere_49 : decode cX6_isElsewhere 49 = .ok (.ifCond .eq 14, 3) := by decide +kernel
theorem dX6_isElsewhere_52 : decode cX6_isElsewhere 52 = .ok (.aload 4, 2) := by decide +kernel
theorem dX6_isElsewhere_54 : decode cX6_isElsewhere 54 = .ok (.aload_n 1, 1) := by decide +kernel
theorem dX6_isElsewhere_55 : decode cX6_isElsewhere 55 = .ok (.invokevirtual 442, 3) := by decide +kernel
theorem dX6_isElsewhere_58 : decode cX6_isElsewhere 58 = .ok (.ifCond .eq 5, 3) := by decide +kernel
theorem dX6_isElsewhere_61 : decode cX6_isElsewhere 61 = .ok (.iconst 1, 1) := by decide +kernel
theorem dX6_isElsewhere_62 : decode cX6_isElsewhere 62 = .ok (.ireturn, 1) := by decide +kernel
theorem dX6_isElsewhere_63 : decode cX6_isElsewhere 63 = .ok (.iinc 3 1, 3) := by decide +kernel
theorem dX6_isElsewhere_66 : decode cX6_isElsewhere 66 = .ok (.goto (-64), 3) := by decide +kernel
theorem dX6_isElsewhere_69 : decode cX6_isElsewhere 69 = .ok (.iconst 0, 1) := by decide +kernel
theorem dX6_isElsewhere_70 : decode cX6_isElsewhere 70 = .ok (.ireturn, 1) := by decide +kernel
theorem dX6_isFree_0 : decode cX6_isFree 0 = .ok (.iconst 0, 1) := by decide +kernel
theorem dX6_isFree_1 : decode cX6_isFree 1 = .ok (.istore 5, 2) := by decide +kernel
theorem dX6_isFree_3 : decode cX6_isFree 3 = .ok (.iload 5, 2) := by decide +kernel
theorem dX6_isFree_5 : decode cX6_isFree 5 = .ok (.aload_n 0, 1) := by decide +kernel
theorem dX6_isFree_6 : decode cX6_isFree 6 = .ok (.getfield 25, 3) := by decide +kernel
theorem dX6_isFree_9 : decode cX6_isFree 9 = .ok (.invokevirtual 104, 3) := by decide +kernel
theorem dX6_isFree_12 : decode cX6_isFree 12 = .ok (.if_icmp .ge 55, 3) := by decide +kernel
theorem dX6_isFree_15 : decode cX6_isFree 15 = .ok (.aload_n 0, 1) := by decide +kernel
theorem dX6_isFree_16 : decode cX6_isFree 16 = .ok (.getfield 25, 3) := by decide +kernel
theorem dX6_isFree_19 : decode cX6_isFree 19 = .ok (.iload 5, 2) := by decide +kernel
theorem dX6_isFree_21 : decode cX6_isFree 21 = .ok (.invokevirtual 130, 3) := by decide +kernel
theorem dX6_isFree_24 : decode cX6_isFree 24 = .ok (.checkcast 176, 3) := by decide +kernel
theorem dX6_isFree_27 : decode cX6_isFree 27 = .ok (.astore 6, 2) := by decide +kernel
theorem dX6_isFree_29 : decode cX6_isFree 29 = .ok (.aload 6, 2) := by decide +kernel
theorem dX6_isFree_31 : decode cX6_isFree 31 = .ok (.getfield 227, 3) := by decide +kernel
theorem dX6_isFree_34 : decode cX6_isFree 34 = .ok (.iload 4, 2) := by decide +kernel
theorem dX6_isFree_36 : decode cX6_isFree 36 = .ok (.if_icmp .ne 25, 3) := by decide +kernel
theorem dX6_isFree_39 : decode cX6_isFree 39 = .ok (.aload 6, 2) := by decide +kernel
theorem dX6_isFree_41 : decode cX6_isFree 41 = .ok (.getfield 191, 3) := by decide +kernel
theorem dX6_isFree_44 : decode cX6_isFree 44 = .ok (.iconst 4, 1) := by decide +kernel
theorem dX6_isFree_45 : decode cX6_isFree 45 = .ok (.if_icmp .eq 16, 3) := by decide +kernel
theorem dX6_isFree_48 : decode cX6_isFree 48 = .ok (.aload 6, 2) := by decide +kernel
theorem dX6_isFree_50 : decode cX6_isFree 50 = .ok (.iload_n 1, 1) := by decide +kernel
theorem dX6_isFree_51 : decode cX6_isFree 51 = .ok (.iload_n 2, 1) := by decide +kernel
theorem dX6_isFree_52 : decode cX6_isFree 52 = .ok (.iload_n 3, 1) := by decide +kernel
theorem dX6_isFree_53 : decode cX6_isFree 53 = .ok (.invokevirtual 445, 3) := by decide +kernel
theorem dX6_isFree_56 : decode cX6_isFree 56 = .ok (.ifCond .eq 5, 3) := by decide +kernel
theorem dX6_isFree_59 : decode cX6_isFree 59 = .ok (.iconst 0, 1) := by decide +kernel
theorem dX6_isFree_60 : decode cX6_isFree 60 = .ok (.ireturn, 1) := by decide +kernel
theorem dX6_isFree_61 : decode cX6_isFree 61 = .ok (.iinc 5 1, 3) := by decide +kernel
theorem dX6_isFree_64 : decode cX6_isFree 64 = .ok (.goto (-61), 3) := by decide +kernel
theorem dX6_isFree_67 : decode cX6_isFree 67 = .ok (.iconst 1, 1) := by decide +kernel
theorem dX6_isFree_68 : decode cX6_isFree 68 = .ok (.ireturn, 1) := by decide +kernel
theorem dX6_isTaken_0 : decode cX6_isTaken 0 = .ok (.iconst 0, 1) := by decide +kernel
theorem dX6_isTaken_1 : decode cX6_isTaken 1 = .ok (.istore_n 2, 1) := by decide +kernel
theorem dX6_isTaken_2 : decode cX6_isTaken 2 = .ok (.iload_n 2, 1) := by decide +kernel
theorem dX6_isTaken_3 : decode cX6_isTaken 3 = .ok (.aload_n 0, 1) := by decide +kernel
theorem dX6_isTaken_4 : decode cX6_isTaken 4 = .ok (.getfield 25, 3) := by decide +kernel
theorem dX6_isTaken_7 : decode cX6_isTaken 7 = .ok (.invokevirtual 104, 3) := by decide +kernel
theorem dX6_isTaken_10 : decode cX6_isTaken 10 = .ok (.if_icmp .ge 39, 3) := by decide +kernel
theorem dX6_isTaken_13 : decode cX6_isTaken 13 = .ok (.aload_n 0, 1) := by decide +kernel
theorem dX6_isTaken_14 : decode cX6_isTaken 14 = .ok (.getfield 25, 3) := by decide +kernel
theorem dX6_isTaken_17 : decode cX6_isTaken 17 = .ok (.iload_n 2, 1) := by decide +kernel
theorem dX6_isTaken_18 : decode cX6_isTaken 18 = .ok (.invokevirtual 130, 3) := by decide +kernel
theorem dX6_isTaken_21 : decode cX6_isTaken 21 = .ok (.checkcast 176, 3) := by decide +kernel
theorem dX6_isTaken_24 : decode cX6_isTaken 24 = .ok (.astore_n 3, 1) := by decide +kernel
theorem dX6_isTaken_25 : decode cX6_isTaken 25 = .ok (.aload_n 3, 1) := by decide +kernel
theorem dX6_isTaken_26 : decode cX6_isTaken 26 = .ok (.getfield 191, 3) := by decide +kernel
theorem dX6_isTaken_29 : decode cX6_isTaken 29 = .ok (.iconst 1, 1) := by decide +kernel
theorem dX6_isTaken_30 : decode cX6_isTaken 30 = .ok (.if_icmp .ne 13, 3) := by decide +kernel
theorem dX6_isTaken_33 : decode cX6_isTaken 33 = .ok (.aload_n 3, 1) := by decide +kernel
theorem dX6_isTaken_34 : decode cX6_isTaken 34 = .ok (.iload_n 1, 1) := by decide +kernel
theorem dX6_isTaken_35 : decode cX6_isTaken 35 = .ok (.invokevirtual 185, 3) := by decide +kernel
theorem dX6_isTaken_38 : decode cX6_isTaken 38 = .ok (.ifCond .eq 5, 3) := by decide +kernel
theorem dX6_isTaken_41 : decode cX6_isTaken 41 = .ok (.iconst 1, 1) := by decide +kernel
theorem dX6_isTaken_42 : decode cX6_isTaken 42 = .ok (.ireturn, 1) := by decide +kernel
theorem dX6_isTaken_43 : decode cX6_isTaken 43 = .ok (.iinc 2 1, 3) := by decide +kernel
theorem dX6_isTaken_46 : decode cX6_isTaken 46 = .ok (.goto (-44), 3) := by decide +kernel
theorem dX6_isTaken_49 : decode cX6_isTaken 49 = .ok (.iconst 0, 1) := by decide +kernel
theorem dX6_isTaken_50 : decode cX6_isTaken 50 = .ok (.ireturn, 1) := by decide +kernel
theorem dX6_signBeside_0 : decode cX6_signBeside 0 = .ok (.iload_n 1, 1) := by decide +kernel
theorem dX6_signBeside_1 : decode cX6_signBeside 1 = .ok (.bipush 10, 2) := by decide +kernel
theorem dX6_signBeside_3 : decode cX6_signBeside 3 = .ok (.if_icmp .ge 10, 3) := by decide +kernel
theorem dX6_signBeside_6 : decode cX6_signBeside 6 = .ok (.iload_n 1, 1) := by decide +kernel
theorem dX6_signBeside_7 : decode cX6_signBeside 7 = .ok (.bipush 10, 2) := by decide +kernel
theorem dX6_signBeside_9 : decode cX6_signBeside 9 = .ok (.iadd, 1) := by decide +kernel
theorem dX6_signBeside_10 : decode cX6_signBeside 10 = .ok (.goto 7, 3) := by decide +kernel
theorem dX6_signBeside_13 : decode cX6_signBeside 13 = .ok (.iload_n 1, 1) := by decide +kernel
theorem dX6_signBeside_14 : decode cX6_signBeside 14 = .ok (.bipush 10, 2) := by decide +kernel
theorem dX6_signBeside_16 : decode cX6_signBeside 16 = .ok (.isub, 1) := by decide +kernel
theorem dX6_signBeside_17 : decode cX6_signBeside 17 = .ok (.istore_n 2, 1) := by decide +kernel
theorem dX6_signBeside_18 : decode cX6_signBeside 18 = .ok (.aload_n 0, 1) := by decide +kernel
theorem dX6_signBeside_19 : decode cX6_signBeside 19 = .ok (.iload_n 2, 1) := by decide +kernel
theorem dX6_signBeside_20 : decode cX6_signBeside 20 = .ok (.invokevirtual 264, 3) := by decide +kernel
theorem dX6_signBeside_23 : decode cX6_signBeside 23 = .ok (.ifCond .eq 7, 3) := by decide +kernel
theorem dX6_signBeside_26 : decode cX6_signBeside 26 = .ok (.iconst 0, 1) := by decide +kernel
theorem dX6_signBeside_27 : decode cX6_signBeside 27 = .ok (.goto 11, 3) := by decide +kernel
theorem dX6_signBeside_30 : decode cX6_signBeside 30 = .ok (.aload_n 0, 1) := by decide +kernel
theorem dX6_signBeside_31 : decode cX6_signBeside 31 = .ok (.iload_n 2, 1) := by decide +kernel
theorem dX6_signBeside_32 : decode cX6_signBeside 32 = .ok (.invokevirtual 64, 3) := by decide +kernel
theorem dX6_signBeside_35 : decode cX6_signBeside 35 = .ok (.getfield 79, 3) := by decide +kernel
theorem dX6_signBeside_38 : decode cX6_signBeside 38 = .ok (.ireturn, 1) := by decide +kernel
theorem dX6_isWarned_0 : decode cX6_isWarned 0 = .ok (.iload_n 0, 1) := by decide +kernel
theorem dX6_isWarned_1 : decode cX6_isWarned 1 = .ok (.iload_n 1, 1) := by decide +kernel
theorem dX6_isWarned_2 : decode cX6_isWarned 2 = .ok (.invokestatic 372, 3) := by decide +kernel
theorem dX6_isWarned_5 : decode cX6_isWarned 5 = .ok (.istore_n 3, 1) := by decide +kernel
theorem dX6_isWarned_6 : decode cX6_isWarned 6 = .ok (.iload_n 3, 1) := by decide +kernel
theorem dX6_isWarned_7 : decode cX6_isWarned 7 = .ok (.ifCond .le 17, 3) := by decide +kernel
theorem dX6_isWarned_10 : decode cX6_isWarned 10 = .ok (.iload_n 2, 1) := by decide +kernel
theorem dX6_isWarned_11 : decode cX6_isWarned 11 = .ok (.bipush 36, 2) := by decide +kernel
theorem dX6_isWarned_13 : decode cX6_isWarned 13 = .ok (.imul, 1) := by decide +kernel
theorem dX6_isWarned_14 : decode cX6_isWarned 14 = .ok (.bipush 10, 2) := by decide +kernel
theorem dX6_isWarned_16 : decode cX6_isWarned 16 = .ok (.iload_n 3, 1) := by decide +kernel
theorem dX6_isWarned_17 : decode cX6_isWarned 17 = .ok (.imul, 1) := by decide +kernel
theorem dX6_isWarned_18 : decode cX6_isWarned 18 = .ok (.idiv, 1) := by decide +kernel
theorem dX6_isWarned_19 : decode cX6_isWarned 19 = .ok (.bipush 25, 2) := by decide +kernel
theorem dX6_isWarned_21 : decode cX6_isWarned 21 = .ok (.if_icmp .lt 7, 3) := by decide +kernel
theorem dX6_isWarned_24 : decode cX6_isWarned 24 = .ok (.iconst 1, 1) := by decide +kernel
theorem dX6_isWarned_25 : decode cX6_isWarned 25 = .ok (.goto 4, 3) := by decide +kernel
theorem dX6_isWarned_28 : decode cX6_isWarned 28 = .ok (.iconst 0, 1) := by decide +kernel
theorem dX6_isWarned_29 : decode cX6_isWarned 29 = .ok (.ireturn, 1) := by decide +kernel
theorem dX6_endNight_0 : decode cX6_endNight 0 = .ok (.aload_n 0, 1) := by decide +kernel
theorem dX6_endNight_1 : decode cX6_endNight 1 = .ok (.aload_n 1, 1) := by decide +kernel
theorem dX6_endNight_2 : decode cX6_endNight 2 = .ok (.invokevirtual 368, 3) := by decide +kernel
theorem dX6_endNight_5 : decode cX6_endNight 5 = .ok (.istore_n 3, 1) := by decide +kernel
theorem dX6_endNight_6 : decode cX6_endNight 6 = .ok (.iconst 0, 1) := by decide +kernel
theorem dX6_endNight_7 : decode cX6_endNight 7 = .ok (.istore 4, 2) := by decide +kernel
theorem dX6_endNight_9 : decode cX6_endNight 9 = .ok (.iload 4, 2) := by decide +kernel
theorem dX6_endNight_11 : decode cX6_endNight 11 = .ok (.aload_n 1, 1) := by decide +kernel
theorem dX6_endNight_12 : decode cX6_endNight 12 = .ok (.getfield 196, 3) := by decide +kernel
theorem dX6_endNight_15 : decode cX6_endNight 15 = .ok (.invokevirtual 104, 3) := by decide +kernel
theorem dX6_endNight_18 : decode cX6_endNight 18 = .ok (.if_icmp .ge 25, 3) := by decide +kernel
theorem dX6_endNight_21 : decode cX6_endNight 21 = .ok (.aload_n 0, 1) := by decide +kernel
theorem dX6_endNight_22 : decode cX6_endNight 22 = .ok (.aload_n 1, 1) := by decide +kernel
theorem dX6_endNight_23 : decode cX6_endNight 23 = .ok (.getfield 196, 3) := by decide +kernel
theorem dX6_endNight_26 : decode cX6_endNight 26 = .ok (.iload 4, 2) := by decide +kernel
theorem dX6_endNight_28 : decode cX6_endNight 28 = .ok (.invokevirtual 130, 3) := by decide +kernel
theorem dX6_endNight_31 : decode cX6_endNight 31 = .ok (.checkcast 222, 3) := by decide +kernel
theorem dX6_endNight_34 : decode cX6_endNight 34 = .ok (.invokevirtual 448, 3) := by decide +kernel
theorem dX6_endNight_37 : decode cX6_endNight 37 = .ok (.iinc 4 1, 3) := by decide +kernel
theorem dX6_endNight_40 : decode cX6_endNight 40 = .ok (.goto (-31), 3) := by decide +kernel
theorem dX6_endNight_43 : decode cX6_endNight 43 = .ok (.aload_n 1, 1) := by decide +kernel
theorem dX6_endNight_44 : decode cX6_endNight 44 = .ok (.iconst 2, 1) := by decide +kernel
theorem dX6_endNight_45 : decode cX6_endNight 45 = .ok (.putfield 191, 3) := by decide +kernel
theorem dX6_endNight_48 : decode cX6_endNight 48 = .ok (.aload_n 1, 1) := by decide +kernel
theorem dX6_endNight_49 : decode cX6_endNight 49 = .ok (.iconst 0, 1) := by decide +kernel
theorem dX6_endNight_50 : decode cX6_endNight 50 = .ok (.iload_n 3, 1) := by decide +kernel
theorem dX6_endNight_51 : decode cX6_endNight 51 = .ok (.aload_n 1, 1) := by decide +kernel
theorem dX6_endNight_52 : decode cX6_endNight 52 = .ok (.getfield 211, 3) := by decide +kernel
theorem dX6_endNight_55 : decode cX6_endNight 55 = .ok (.isub, 1) := by decide +kernel
theorem dX6_endNight_56 : decode cX6_endNight 56 = .ok (.invokestatic 372, 3) := by decide +kernel
theorem dX6_endNight_59 : decode cX6_endNight 59 = .ok (.iload_n 2, 1) := by decide +kernel
theorem dX6_endNight_60 : decode cX6_endNight 60 = .ok (.iadd, 1) := by decide +kernel
theorem dX6_endNight_61 : decode cX6_endNight 61 = .ok (.putfield 259, 3) := by decide +kernel
theorem dX6_endNight_64 : decode cX6_endNight 64 = .ok (.aload_n 0, 1) := by decide +kernel
theorem dX6_endNight_65 : decode cX6_endNight 65 = .ok (.dup, 1) := by decide +kernel
theorem dX6_endNight_66 : decode cX6_endNight 66 = .ok (.getfield 61, 3) := by decide +kernel
theorem dX6_endNight_69 : decode cX6_endNight 69 = .ok (.aload_n 1, 1) := by decide +kernel
theorem dX6_endNight_70 : decode cX6_endNight 70 = .ok (.getfield 259, 3) := by decide +kernel
theorem dX6_endNight_73 : decode cX6_endNight 73 = .ok (.iadd, 1) := by decide +kernel
theorem dX6_endNight_74 : decode cX6_endNight 74 = .ok (.putfield 61, 3) := by decide +kernel
theorem dX6_endNight_77 : decode cX6_endNight 77 = .ok (.aload_n 0, 1) := by decide +kernel
theorem dX6_endNight_78 : decode cX6_endNight 78 = .ok (.dup, 1) := by decide +kernel
theorem dX6_endNight_79 : decode cX6_endNight 79 = .ok (.getfield 49, 3) := by decide +kernel
theorem dX6_endNight_82 : decode cX6_endNight 82 = .ok (.bipush 20, 2) := by decide +kernel
theorem dX6_endNight_84 : decode cX6_endNight 84 = .ok (.aload_n 1, 1) := by decide +kernel
theorem dX6_endNight_85 : decode cX6_endNight 85 = .ok (.getfield 211, 3) := by decide +kernel
theorem dX6_endNight_88 : decode cX6_endNight 88 = .ok (.imul, 1) := by decide +kernel
theorem dX6_endNight_89 : decode cX6_endNight 89 = .ok (.iadd, 1) := by decide +kernel
theorem dX6_endNight_90 : decode cX6_endNight 90 = .ok (.putfield 49, 3) := by decide +kernel
theorem dX6_endNight_93 : decode cX6_endNight 93 = .ok (.aload_n 0, 1) := by decide +kernel
theorem dX6_endNight_94 : decode cX6_endNight 94 = .ok (.dup, 1) := by decide +kernel
theorem dX6_endNight_95 : decode cX6_endNight 95 = .ok (.getfield 49, 3) := by decide +kernel
theorem dX6_endNight_98 : decode cX6_endNight 98 = .ok (.bipush 30, 2) := by decide +kernel
theorem dX6_endNight_100 : decode cX6_endNight 100 = .ok (.iload_n 3, 1) := by decide +kernel
theorem dX6_endNight_101 : decode cX6_endNight 101 = .ok (.imul, 1) := by decide +kernel
theorem dX6_endNight_102 : decode cX6_endNight 102 = .ok (.iadd, 1) := by decide +kernel
theorem dX6_endNight_103 : decode cX6_endNight 103 = .ok (.putfield 49, 3) := by decide +kernel
theorem dX6_endNight_106 : decode cX6_endNight 106 = .ok (.aload_n 0, 1) := by decide +kernel
theorem dX6_endNight_107 : decode cX6_endNight 107 = .ok (.dup, 1) := by decide +kernel
theorem dX6_endNight_108 : decode cX6_endNight 108 = .ok (.getfield 49, 3) := by decide +kernel
theorem dX6_endNight_111 : decode cX6_endNight 111 = .ok (.bipush 100, 2) := by decide +kernel
theorem dX6_endNight_113 : decode cX6_endNight 113 = .ok (.aload_n 1, 1) := by decide +kernel
theorem dX6_endNight_114 : decode cX6_endNight 114 = .ok (.getfield 259, 3) := by decide +kernel
theorem dX6_endNight_117 : decode cX6_endNight 117 = .ok (.imul, 1) := by decide +kernel
theorem dX6_endNight_118 : decode cX6_endNight 118 = .ok (.iadd, 1) := by decide +kernel
theorem dX6_endNight_119 : decode cX6_endNight 119 = .ok (.putfield 49, 3) := by decide +kernel
theorem dX6_endNight_122 : decode cX6_endNight 122 = .ok (.return_, 1) := by decide +kernel
theorem dX6_carryOut_0 : decode cX6_carryOut 0 = .ok (.aload_n 1, 1) := by decide +kernel
theorem dX6_carryOut_1 : decode cX6_carryOut 1 = .ok (.getfield 452, 3) := by decide +kernel
theorem dX6_carryOut_4 : decode cX6_carryOut 4 = .ok (.getfield 161, 3) := by decide +kernel
theorem dX6_carryOut_7 : decode cX6_carryOut 7 = .ok (.aload_n 1, 1) := by decide +kernel
theorem dX6_carryOut_8 : decode cX6_carryOut 8 = .ok (.getfield 456, 3) := by decide +kernel
theorem dX6_carryOut_11 : decode cX6_carryOut 11 = .ok (.if_icmp .ge 25, 3) := by decide +kernel
theorem dX6_carryOut_14 : decode cX6_carryOut 14 = .ok (.aload_n 1, 1) := by decide +kernel
theorem dX6_carryOut_15 : decode cX6_carryOut 15 = .ok (.getfield 452, 3) := by decide +kernel
theorem dX6_carryOut_18 : decode cX6_carryOut 18 = .ok (.iconst 0, 1) := by decide +kernel
theorem dX6_carryOut_19 : decode cX6_carryOut 19 = .ok (.putfield 161, 3) := by decide +kernel
theorem dX6_carryOut_22 : decode cX6_carryOut 22 = .ok (.aload_n 1, 1) := by decide +kernel
theorem dX6_carryOut_23 : decode cX6_carryOut 23 = .ok (.getfield 452, 3) := by decide +kernel
theorem dX6_carryOut_26 : decode cX6_carryOut 26 = .ok (.dup, 1) := by decide +kernel
theorem dX6_carryOut_27 : decode cX6_carryOut 27 = .ok (.getfield 312, 3) := by decide +kernel
theorem dX6_carryOut_30 : decode cX6_carryOut 30 = .ok (.iconst 1, 1) := by decide +kernel
theorem dX6_carryOut_31 : decode cX6_carryOut 31 = .ok (.iadd, 1) := by decide +kernel
theorem dX6_carryOut_32 : decode cX6_carryOut 32 = .ok (.putfield 312, 3) := by decide +kernel
theorem dX6_carryOut_35 : decode cX6_carryOut 35 = .ok (.return_, 1) := by decide +kernel
theorem dX6_carryOut_36 : decode cX6_carryOut 36 = .ok (.aload_n 1, 1) := by decide +kernel
theorem dX6_carryOut_37 : decode cX6_carryOut 37 = .ok (.getfield 452, 3) := by decide +kernel
theorem dX6_carryOut_40 : decode cX6_carryOut 40 = .ok (.dup, 1) := by decide +kernel
theorem dX6_carryOut_41 : decode cX6_carryOut 41 = .ok (.getfield 161, 3) := by decide +kernel
theorem dX6_carryOut_44 : decode cX6_carryOut 44 = .ok (.aload_n 1, 1) := by decide +kernel
theorem dX6_carryOut_45 : decode cX6_carryOut 45 = .ok (.getfield 456, 3) := by decide +kernel
theorem dX6_carryOut_48 : decode cX6_carryOut 48 = .ok (.isub, 1) := by decide +kernel
theorem dX6_carryOut_49 : decode cX6_carryOut 49 = .ok (.putfield 161, 3) := by decide +kernel
theorem dX6_carryOut_52 : decode cX6_carryOut 52 = .ok (.aload_n 1, 1) := by decide +kernel
theorem dX6_carryOut_53 : decode cX6_carryOut 53 = .ok (.getfield 452, 3) := by decide +kernel
theorem dX6_carryOut_56 : decode cX6_carryOut 56 = .ok (.dup, 1) := by decide +kernel
theorem dX6_carryOut_57 : decode cX6_carryOut 57 = .ok (.getfield 309, 3) := by decide +kernel
theorem dX6_carryOut_60 : decode cX6_carryOut 60 = .ok (.iconst 1, 1) := by decide +kernel
theorem dX6_carryOut_61 : decode cX6_carryOut 61 = .ok (.iadd, 1) := by decide +kernel
theorem dX6_carryOut_62 : decode cX6_carryOut 62 = .ok (.putfield 309, 3) := by decide +kernel
theorem dX6_carryOut_65 : decode cX6_carryOut 65 = .ok (.aload_n 1, 1) := by decide +kernel
theorem dX6_carryOut_66 : decode cX6_carryOut 66 = .ok (.getfield 457, 3) := by decide +kernel
theorem dX6_carryOut_69 : decode cX6_carryOut 69 = .ok (.aload_n 1, 1) := by decide +kernel
theorem dX6_carryOut_70 : decode cX6_carryOut 70 = .ok (.getfield 452, 3) := by decide +kernel
theorem dX6_carryOut_73 : decode cX6_carryOut 73 = .ok (.getfield 201, 3) := by decide +kernel
theorem dX6_carryOut_76 : decode cX6_carryOut 76 = .ok (.aload_n 0, 1) := by decide +kernel
theorem dX6_carryOut_77 : decode cX6_carryOut 77 = .ok (.getfield 46, 3) := by decide +kernel
theorem dX6_carryOut_80 : decode cX6_carryOut 80 = .ok (.invokevirtual 460, 3) := by decide +kernel
theorem dX6_carryOut_83 : decode cX6_carryOut 83 = .ok (.aload_n 1, 1) := by decide +kernel
theorem dX6_carryOut_84 : decode cX6_carryOut 84 = .ok (.getfield 452, 3) := by decide +kernel
theorem dX6_carryOut_87 : decode cX6_carryOut 87 = .ok (.getfield 201, 3) := by decide +kernel
theorem dX6_carryOut_90 : decode cX6_carryOut 90 = .ok (.iconst 2, 1) := by decide +kernel
theorem dX6_carryOut_91 : decode cX6_carryOut 91 = .ok (.if_icmp .ne 15, 3) := by decide +kernel
theorem dX6_carryOut_94 : decode cX6_carryOut 94 = .ok (.aload_n 0, 1) := by decide +kernel
theorem dX6_carryOut_95 : decode cX6_carryOut 95 = .ok (.dup, 1) := by decide +kernel
theorem dX6_carryOut_96 : decode cX6_carryOut 96 = .ok (.getfield 49, 3) := by decide +kernel
theorem dX6_carryOut_99 : decode cX6_carryOut 99 = .ok (.sipush 300, 3) := by decide +kernel
theorem dX6_carryOut_102 : decode cX6_carryOut 102 = .ok (.iadd, 1) := by decide +kernel
theorem dX6_carryOut_103 : decode cX6_carryOut 103 = .ok (.putfield 49, 3) := by decide +kernel
theorem dX6_carryOut_106 : decode cX6_carryOut 106 = .ok (.return_, 1) := by decide +kernel
theorem dX6_hoursTaken_0 : decode cX6_hoursTaken 0 = .ok (.iconst 0, 1) := by decide +kernel
theorem dX6_hoursTaken_1 : decode cX6_hoursTaken 1 = .ok (.istore_n 2, 1) := by decide +kernel
theorem dX6_hoursTaken_2 : decode cX6_hoursTaken 2 = .ok (.iconst 0, 1) := by decide +kernel
theorem dX6_hoursTaken_3 : decode cX6_hoursTaken 3 = .ok (.istore_n 3, 1) := by decide +kernel
theorem dX6_hoursTaken_4 : decode cX6_hoursTaken 4 = .ok (.iload_n 3, 1) := by decide +kernel
theorem dX6_hoursTaken_5 : decode cX6_hoursTaken 5 = .ok (.aload_n 0, 1) := by decide +kernel
theorem dX6_hoursTaken_6 : decode cX6_hoursTaken 6 = .ok (.getfield 22, 3) := by decide +kernel
theorem dX6_hoursTaken_9 : decode cX6_hoursTaken 9 = .ok (.invokevirtual 104, 3) := by decide +kernel
theorem dX6_hoursTaken_12 : decode cX6_hoursTaken 12 = .ok (.if_icmp .ge 27, 3) := by decide +kernel
theorem dX6_hoursTaken_15 : decode cX6_hoursTaken 15 = .ok (.iload_n 2, 1) := by decide +kernel
theorem dX6_hoursTaken_16 : decode cX6_hoursTaken 16 = .ok (.aload_n 1, 1) := by decide +kernel
theorem dX6_hoursTaken_17 : decode cX6_hoursTaken 17 = .ok (.aload_n 0, 1) := by decide +kernel
theorem dX6_hoursTaken_18 : decode cX6_hoursTaken 18 = .ok (.getfield 22, 3) := by decide +kernel
theorem dX6_hoursTaken_21 : decode cX6_hoursTaken 21 = .ok (.iload_n 3, 1) := by decide +kernel
theorem dX6_hoursTaken_22 : decode cX6_hoursTaken 22 = .ok (.invokevirtual 130, 3) := by decide +kernel
theorem dX6_hoursTaken_25 : decode cX6_hoursTaken 25 = .ok (.checkcast 148, 3) := by decide +kernel
theorem dX6_hoursTaken_28 : decode cX6_hoursTaken 28 = .ok (.invokevirtual 463, 3) := by decide +kernel
theorem dX6_hoursTaken_31 : decode cX6_hoursTaken 31 = .ok (.iadd, 1) := by decide +kernel
theorem dX6_hoursTaken_32 : decode cX6_hoursTaken 32 = .ok (.istore_n 2, 1) := by decide +kernel
theorem dX6_hoursTaken_33 : decode cX6_hoursTaken 33 = .ok (.iinc 3 1, 3) := by decide +kernel
theorem dX6_hoursTaken_36 : decode cX6_hoursTaken 36 = .ok (.goto (-32), 3) := by decide +kernel
theorem dX6_hoursTaken_39 : decode cX6_hoursTaken 39 = .ok (.iload_n 2, 1) := by decide +kernel
theorem dX6_hoursTaken_40 : decode cX6_hoursTaken 40 = .ok (.ireturn, 1) := by decide +kernel
theorem dX6_costBehind_0 : decode cX6_costBehind 0 = .ok (.aload_n 0, 1) := by decide +kernel
theorem dX6_costBehind_1 : decode cX6_costBehind 1 = .ok (.getfield 38, 3) := by decide +kernel
theorem dX6_costBehind_4 : decode cX6_costBehind 4 = .ok (.aload_n 1, 1) := by decide +kernel
theorem dX6_costBehind_5 : decode cX6_costBehind 5 = .ok (.invokevirtual 346, 3) := by decide +kernel
theorem dX6_costBehind_8 : decode cX6_costBehind 8 = .ok (.iconst 0, 1) := by decide +kernel
theorem dX6_costBehind_9 : decode cX6_costBehind 9 = .ok (.istore 5, 2) := by decide +kernel
theorem dX6_costBehind_11 : decode cX6_costBehind 11 = .ok (.iload_n 2, 1) := by decide +kernel
theorem dX6_costBehind_12 : decode cX6_costBehind 12 = .ok (.iconst 3, 1) := by decide +kernel
theorem dX6_costBehind_13 : decode cX6_costBehind 13 = .ok (.if_icmp .eq 25, 3) := by decide +kernel
theorem dX6_costBehind_16 : decode cX6_costBehind 16 = .ok (.aload_n 0, 1) := by decide +kernel
theorem dX6_costBehind_17 : decode cX6_costBehind 17 = .ok (.getfield 38, 3) := by decide +kernel
theorem dX6_costBehind_20 : decode cX6_costBehind 20 = .ok (.iload_n 2, 1) := by decide +kernel
theorem dX6_costBehind_21 : decode cX6_costBehind 21 = .ok (.aload_n 0, 1) := by decide +kernel
theorem dX6_costBehind_22 : decode cX6_costBehind 22 = .ok (.getfield 46, 3) := by decide +kernel
theorem dX6_costBehind_25 : decode cX6_costBehind 25 = .ok (.invokevirtual 460, 3) := by decide +kernel
theorem dX6_costBehind_28 : decode cX6_costBehind 28 = .ok (.bipush 30, 2) := by decide +kernel
theorem dX6_costBehind_30 : decode cX6_costBehind 30 = .ok (.aload_n 1, 1) := by decide +kernel
theorem dX6_costBehind_31 : decode cX6_costBehind 31 = .ok (.iload_n 2, 1) := by decide +kernel
theorem dX6_costBehind_32 : decode cX6_costBehind 32 = .ok (.invokevirtual 204, 3) := by decide +kernel
theorem dX6_costBehind_35 : decode cX6_costBehind 35 = .ok (.imul, 1) := by decide +kernel
theorem dX6_costBehind_36 : decode cX6_costBehind 36 = .ok (.istore 5, 2) := by decide +kernel
theorem dX6_costBehind_38 : decode cX6_costBehind 38 = .ok (.iload_n 2, 1) := by decide +kernel
theorem dX6_costBehind_39 : decode cX6_costBehind 39 = .ok (.iconst 2, 1) := by decide +kernel
theorem dX6_costBehind_40 : decode cX6_costBehind 40 = .ok (.if_icmp .ne 9, 3) := by decide +kernel
theorem dX6_costBehind_43 : decode cX6_costBehind 43 = .ok (.iinc 5 300, 6) := by decide +kernel
theorem dX6_costBehind_49 : decode cX6_costBehind 49 = .ok (.iconst 0, 1) := by decide +kernel
theorem dX6_costBehind_50 : decode cX6_costBehind 50 = .ok (.istore 6, 2) := by decide +kernel
theorem dX6_costBehind_52 : decode cX6_costBehind 52 = .ok (.iload 6, 2) := by decide +kernel
theorem dX6_costBehind_54 : decode cX6_costBehind 54 = .ok (.iload 4, 2) := by decide +kernel
theorem dX6_costBehind_56 : decode cX6_costBehind 56 = .ok (.if_icmp .ge 37, 3) := by decide +kernel
theorem dX6_costBehind_59 : decode cX6_costBehind 59 = .ok (.aload_n 0, 1) := by decide +kernel
theorem dX6_costBehind_60 : decode cX6_costBehind 60 = .ok (.getfield 38, 3) := by decide +kernel
theorem dX6_costBehind_63 : decode cX6_costBehind 63 = .ok (.iload_n 3, 1) := by decide +kernel
theorem dX6_costBehind_64 : decode cX6_costBehind 64 = .ok (.invokevirtual 353, 3) := by decide +kernel
theorem dX6_costBehind_67 : decode cX6_costBehind 67 = .ok (.iload 5, 2) := by decide +kernel
theorem dX6_costBehind_69 : decode cX6_costBehind 69 = .ok (.iload_n 3, 1) := by decide +kernel
theorem dX6_costBehind_70 : decode cX6_costBehind 70 = .ok (.aload_n 0, 1) := by decide +kernel
theorem dX6_costBehind_71 : decode cX6_costBehind 71 = .ok (.getfield 38, 3) := by decide +kernel
theorem dX6_costBehind_74 : decode cX6_costBehind 74 = .ok (.aload_n 0, 1) := by decide +kernel
theorem dX6_costBehind_75 : decode cX6_costBehind 75 = .ok (.getfield 46, 3) := by decide +kernel
theorem dX6_costBehind_78 : decode cX6_costBehind 78 = .ok (.invokevirtual 289, 3) := by decide +kernel
theorem dX6_costBehind_81 : decode cX6_costBehind 81 = .ok (.invokestatic 433, 3) := by decide +kernel
theorem dX6_costBehind_84 : decode cX6_costBehind 84 = .ok (.iadd, 1) := by decide +kernel
theorem dX6_costBehind_85 : decode cX6_costBehind 85 = .ok (.istore 5, 2) := by decide +kernel
theorem dX6_costBehind_87 : decode cX6_costBehind 87 = .ok (.iinc 6 1, 3) := by decide +kernel
theorem dX6_costBehind_90 : decode cX6_costBehind 90 = .ok (.goto (-38), 3) := by decide +kernel
theorem dX6_costBehind_93 : decode cX6_costBehind 93 = .ok (.iload 5, 2) := by decide +kernel
theorem dX6_costBehind_95 : decode cX6_costBehind 95 = .ok (.ireturn, 1) := by decide +kernel
theorem dX6_countAligned_0 : decode cX6_countAligned 0 = .ok (.iconst 0, 1) := by decide +kernel
theorem dX6_countAligned_1 : decode cX6_countAligned 1 = .ok (.istore_n 1, 1) := by decide +kernel
theorem dX6_countAligned_2 : decode cX6_countAligned 2 = .ok (.iconst 0, 1) := by decide +kernel
theorem dX6_countAligned_3 : decode cX6_countAligned 3 = .ok (.istore_n 2, 1) := by decide +kernel
theorem dX6_countAligned_4 : decode cX6_countAligned 4 = .ok (.iload_n 2, 1) := by decide +kernel
theorem dX6_countAligned_5 : decode cX6_countAligned 5 = .ok (.aload_n 0, 1) := by decide +kernel
theorem dX6_countAligned_6 : decode cX6_countAligned 6 = .ok (.getfield 18, 3) := by decide +kernel
theorem dX6_countAligned_9 : decode cX6_countAligned 9 = .ok (.invokevirtual 104, 3) := by decide +kernel
theorem dX6_countAligned_12 : decode cX6_countAligned 12 = .ok (.if_icmp .ge 29, 3) := by decide +kernel
theorem dX6_countAligned_15 : decode cX6_countAligned 15 = .ok (.aload_n 0, 1) := by decide +kernel
theorem dX6_countAligned_16 : decode cX6_countAligned 16 = .ok (.getfield 18, 3) := by decide +kernel
theorem dX6_countAligned_19 : decode cX6_countAligned 19 = .ok (.iload_n 2, 1) := by decide +kernel
theorem dX6_countAligned_20 : decode cX6_countAligned 20 = .ok (.invokevirtual 130, 3) := by decide +kernel
theorem dX6_countAligned_23 : decode cX6_countAligned 23 = .ok (.checkcast 110, 3) := by decide +kernel
theorem dX6_countAligned_26 : decode cX6_countAligned 26 = .ok (.getfield 134, 3) := by decide +kernel
theorem dX6_countAligned_29 : decode cX6_countAligned 29 = .ok (.ifCond .eq 6, 3) := by decide +kernel
theorem dX6_countAligned_32 : decode cX6_countAligned 32 = .ok (.iinc 1 1, 3) := by decide +kernel
theorem dX6_countAligned_35 : decode cX6_countAligned 35 = .ok (.iinc 2 1, 3) := by decide +kernel
theorem dX6_countAligned_38 : decode cX6_countAligned 38 = .ok (.goto (-34), 3) := by decide +kernel
theorem dX6_countAligned_41 : decode cX6_countAligned 41 = .ok (.iload_n 1, 1) := by decide +kernel
theorem dX6_countAligned_42 : decode cX6_countAligned 42 = .ok (.ireturn, 1) := by decide +kernel
theorem dX6_countPossessions_0 : decode cX6_countPossessions 0 = .ok (.iconst 0, 1) := by decide +kernel
theorem dX6_countPossessions_1 : decode cX6_countPossessions 1 = .ok (.istore_n 2, 1) := by decide +kernel
theorem dX6_countPossessions_2 : decode cX6_countPossessions 2 = .ok (.iconst 0, 1) := by decide +kernel
theorem dX6_countPossessions_3 : decode cX6_countPossessions 3 = .ok (.istore_n 3, 1) := by decide +kernel
theorem dX6_countPossessions_4 : decode cX6_countPossessions 4 = .ok (.iload_n 3, 1) := by decide +kernel
theorem dX6_countPossessions_5 : decode cX6_countPossessions 5 = .ok (.aload_n 0, 1) := by decide +kernel
theorem dX6_countPossessions_6 : decode cX6_countPossessions 6 = .ok (.getfield 25, 3) := by decide +kernel
theorem dX6_countPossessions_9 : decode cX6_countPossessions 9 = .ok (.invokevirtual 104, 3) := by decide +kernel
theorem dX6_countPossessions_12 : decode cX6_countPossessions 12 = .ok (.if_icmp .ge 30, 3) := by decide +kernel
theorem dX6_countPossessions_15 : decode cX6_countPossessions 15 = .ok (.aload_n 0, 1) := by decide +kernel
theorem dX6_countPossessions_16 : decode cX6_countPossessions 16 = .ok (.getfield 25, 3) := by decide +kernel
theorem dX6_countPossessions_19 : decode cX6_countPossessions 19 = .ok (.iload_n 3, 1) := by decide +kernel
theorem dX6_countPossessions_20 : decode cX6_countPossessions 20 = .ok (.invokevirtual 130, 3) := by decide +kernel
theorem dX6_countPossessions_23 : decode cX6_countPossessions 23 = .ok (.checkcast 176, 3) := by decide +kernel
theorem dX6_countPossessions_26 : decode cX6_countPossessions 26 = .ok (.getfield 191, 3) := by decide +kernel
theorem dX6_countPossessions_29 : decode cX6_countPossessions 29 = .ok (.iload_n 1, 1) := by decide +kernel
theorem dX6_countPossessions_30 : decode cX6_countPossessions 30 = .ok (.if_icmp .ne 6, 3) := by decide +kernel
theorem dX6_countPossessions_33 : decode cX6_countPossessions 33 = .ok (.iinc 2 1, 3) := by decide +kernel
theorem dX6_countPossessions_36 : decode cX6_countPossessions 36 = .ok (.iinc 3 1, 3) := by decide +kernel
theorem dX6_countPossessions_39 : decode cX6_countPossessions 39 = .ok (.goto (-35), 3) := by decide +kernel
theorem dX6_countPossessions_42 : decode cX6_countPossessions 42 = .ok (.iload_n 2, 1) := by decide +kernel
theorem dX6_countPossessions_43 : decode cX6_countPossessions 43 = .ok (.ireturn, 1) := by decide +kernel
theorem dX6_countTrueRisks_0 : decode cX6_countTrueRisks 0 = .ok (.iconst 0, 1) := by decide +kernel
theorem dX6_countTrueRisks_1 : decode cX6_countTrueRisks 1 = .ok (.istore_n 1, 1) := by decide +kernel
theorem dX6_countTrueRisks_2 : decode cX6_countTrueRisks 2 = .ok (.iconst 0, 1) := by decide +kernel
theorem dX6_countTrueRisks_3 : decode cX6_countTrueRisks 3 = .ok (.istore_n 2, 1) := by decide +kernel
theorem dX6_countTrueRisks_4 : decode cX6_countTrueRisks 4 = .ok (.iload_n 2, 1) := by decide +kernel
theorem dX6_countTrueRisks_5 : decode cX6_countTrueRisks 5 = .ok (.bipush 20, 2) := by decide +kernel
theorem dX6_countTrueRisks_7 : decode cX6_countTrueRisks 7 = .ok (.if_icmp .ge 28, 3) := by decide +kernel
theorem dX6_countTrueRisks_10 : decode cX6_countTrueRisks 10 = .ok (.aload_n 0, 1) := by decide +kernel
theorem dX6_countTrueRisks_11 : decode cX6_countTrueRisks 11 = .ok (.getfield 11, 3) := by decide +kernel
theorem dX6_countTrueRisks_14 : decode cX6_countTrueRisks 14 = .ok (.iload_n 2, 1) := by decide +kernel
theorem dX6_countTrueRisks_15 : decode cX6_countTrueRisks 15 = .ok (.aaload, 1) := by decide +kernel
theorem dX6_countTrueRisks_16 : decode cX6_countTrueRisks 16 = .ok (.aload_n 0, 1) := by decide +kernel
theorem dX6_countTrueRisks_17 : decode cX6_countTrueRisks 17 = .ok (.getfield 46, 3) := by decide +kernel
theorem dX6_countTrueRisks_20 : decode cX6_countTrueRisks 20 = .ok (.invokevirtual 350, 3) := by decide +kernel
theorem dX6_countTrueRisks_23 : decode cX6_countTrueRisks 23 = .ok (.ifCond .eq 6, 3) := by decide +kernel
theorem dX6_countTrueRisks_26 : decode cX6_countTrueRisks 26 = .ok (.iinc 1 1, 3) := by decide +kernel
theorem dX6_countTrueRisks_29 : decode cX6_countTrueRisks 29 = .ok (.iinc 2 1, 3) := by decide +kernel
theorem dX6_countTrueRisks_32 : decode cX6_countTrueRisks 32 = .ok (.goto (-28), 3) := by decide +kernel
theorem dX6_countTrueRisks_35 : decode cX6_countTrueRisks 35 = .ok (.iload_n 1, 1) := by decide +kernel
theorem dX6_countTrueRisks_36 : decode cX6_countTrueRisks 36 = .ok (.ireturn, 1) := by decide +kernel
theorem dX6_countKnownRisks_0 : decode cX6_countKnownRisks 0 = .ok (.iconst 0, 1) := by decide +kernel
theorem dX6_countKnownRisks_1 : decode cX6_countKnownRisks 1 = .ok (.istore_n 1, 1) := by decide +kernel
theorem dX6_countKnownRisks_2 : decode cX6_countKnownRisks 2 = .ok (.iconst 0, 1) := by decide +kernel
theorem dX6_countKnownRisks_3 : decode cX6_countKnownRisks 3 = .ok (.istore_n 2, 1) := by decide +kernel
theorem dX6_countKnownRisks_4 : decode cX6_countKnownRisks 4 = .ok (.iload_n 2, 1) := by decide +kernel
theorem dX6_countKnownRisks_5 : decode cX6_countKnownRisks 5 = .ok (.bipush 20, 2) := by decide +kernel
theorem dX6_countKnownRisks_7 : decode cX6_countKnownRisks 7 = .ok (.if_icmp .ge 43, 3) := by decide +kernel
theorem dX6_countKnownRisks_10 : decode cX6_countKnownRisks 10 = .ok (.aload_n 0, 1) := by decide +kernel
theorem dX6_countKnownRisks_11 : decode cX6_countKnownRisks 11 = .ok (.getfield 11, 3) := by decide +kernel
theorem dX6_countKnownRisks_14 : decode cX6_countKnownRisks 14 = .ok (.iload_n 2, 1) := by decide +kernel
theorem dX6_countKnownRisks_15 : decode cX6_countKnownRisks 15 = .ok (.aaload, 1) := by decide +kernel
theorem dX6_countKnownRisks_16 : decode cX6_countKnownRisks 16 = .ok (.astore_n 3, 1) := by decide +kernel
theorem dX6_countKnownRisks_17 : decode cX6_countKnownRisks 17 = .ok (.aload_n 3, 1) := by decide +kernel
theorem dX6_countKnownRisks_18 : decode cX6_countKnownRisks 18 = .ok (.getfield 79, 3) := by decide +kernel
theorem dX6_countKnownRisks_21 : decode cX6_countKnownRisks 21 = .ok (.aload_n 0, 1) := by decide +kernel
theorem dX6_countKnownRisks_22 : decode cX6_countKnownRisks 22 = .ok (.iload_n 2, 1) := by decide +kernel
theorem dX6_countKnownRisks_23 : decode cX6_countKnownRisks 23 = .ok (.invokevirtual 294, 3) := by decide +kernel
theorem dX6_countKnownRisks_26 : decode cX6_countKnownRisks 26 = .ok (.aload_n 0, 1) := by decide +kernel
theorem dX6_countKnownRisks_27 : decode cX6_countKnownRisks 27 = .ok (.getfield 46, 3) := by decide +kernel
theorem dX6_countKnownRisks_30 : decode cX6_countKnownRisks 30 = .ok (.aload_n 3, 1) := by decide +kernel
theorem dX6_countKnownRisks_31 : decode cX6_countKnownRisks 31 = .ok (.getfield 286, 3) := by decide +kernel
theorem dX6_countKnownRisks_34 : decode cX6_countKnownRisks 34 = .ok (.isub, 1) := by decide +kernel
theorem dX6_countKnownRisks_35 : decode cX6_countKnownRisks 35 = .ok (.invokevirtual 298, 3) := by decide +kernel
theorem dX6_countKnownRisks_38 : decode cX6_countKnownRisks 38 = .ok (.if_icmp .le 6, 3) := by decide +kernel
theorem dX6_countKnownRisks_41 : decode cX6_countKnownRisks 41 = .ok (.iinc 1 1, 3) := by decide +kernel
theorem dX6_countKnownRisks_44 : decode cX6_countKnownRisks 44 = .ok (.iinc 2 1, 3) := by decide +kernel
theorem dX6_countKnownRisks_47 : decode cX6_countKnownRisks 47 = .ok (.goto (-43), 3) := by decide +kernel
theorem dX6_countKnownRisks_50 : decode cX6_countKnownRisks 50 = .ok (.iload_n 1, 1) := by decide +kernel
theorem dX6_countKnownRisks_51 : decode cX6_countKnownRisks 51 = .ok (.ireturn, 1) := by decide +kernel
theorem dJ9_max_7cf53_0 : decode cJ9_max_7cf53 0 = .ok (.iload_n 0, 1) := by decide +kernel
theorem dJ9_max_7cf53_1 : decode cJ9_max_7cf53 1 = .ok (.iload_n 1, 1) := by decide +kernel
theorem dJ9_max_7cf53_2 : decode cJ9_max_7cf53 2 = .ok (.if_icmp .lt 7, 3) := by decide +kernel
theorem dJ9_max_7cf53_5 : decode cJ9_max_7cf53 5 = .ok (.iload_n 0, 1) := by decide +kernel
theorem dJ9_max_7cf53_6 : decode cJ9_max_7cf53 6 = .ok (.goto 4, 3) := by decide +kernel
theorem dJ9_max_7cf53_9 : decode cJ9_max_7cf53 9 = .ok (.iload_n 1, 1) := by decide +kernel
theorem dJ9_max_7cf53_10 : decode cJ9_max_7cf53 10 = .ok (.ireturn, 1) := by decide +kernel
theorem dJ9_min_7cf53_0 : decode cJ9_min_7cf53 0 = .ok (.iload_n 0, 1) := by decide +kernel
theorem dJ9_min_7cf53_1 : decode cJ9_min_7cf53 1 = .ok (.iload_n 1, 1) := by decide +kernel
theorem dJ9_min_7cf53_2 : decode cJ9_min_7cf53 2 = .ok (.if_icmp .gt 7, 3) := by decide +kernel
theorem dJ9_min_7cf53_5 : decode cJ9_min_7cf53 5 = .ok (.iload_n 0, 1) := by decide +kernel
theorem dJ9_min_7cf53_6 : decode cJ9_min_7cf53 6 = .ok (.goto 4, 3) := by decide +kernel
theorem dJ9_min_7cf53_9 : decode cJ9_min_7cf53 9 = .ok (.iload_n 1, 1) := by decide +kernel
theorem dJ9_min_7cf53_10 : decode cJ9_min_7cf53 10 = .ok (.ireturn, 1) := by decide +kernel
theorem dJxa1e45_init_da8c8_0 : decode cJxa1e45_init_da8c8 0 = .ok (.aload_n 0, 1) := by decide +kernel
theorem dJxa1e45_init_da8c8_1 : decode cJxa1e45_init_da8c8 1 = .ok (.invokespecial 1, 3) := by decide +kernel
theorem dJxa1e45_init_da8c8_4 : decode cJxa1e45_init_da8c8 4 = .ok (.return_, 1) := by decide +kernel
theorem dJxc12de_init_da8c8_0 : decode cJxc12de_init_da8c8 0 = .ok (.aload_n 0, 1) := by decide +kernel
theorem dJxc12de_init_da8c8_1 : decode cJxc12de_init_da8c8 1 = .ok (.invokespecial 1, 3) := by decide +kernel
theorem dJxc12de_init_da8c8_4 : decode cJxc12de_init_da8c8 4 = .ok (.aload_n 0, 1) := by decide +kernel
theorem dJxc12de_init_da8c8_5 : decode cJxc12de_init_da8c8 5 = .ok (.iconst 0, 1) := by decide +kernel
theorem dJxc12de_init_da8c8_6 : decode cJxc12de_init_da8c8 6 = .ok (.putfield 7, 3) := by decide +kernel
theorem dJxc12de_init_da8c8_9 : decode cJxc12de_init_da8c8 9 = .ok (.return_, 1) := by decide +kernel
theorem dJx4a65c_init_da8c8_0 : decode cJx4a65c_init_da8c8 0 = .ok (.aload_n 0, 1) := by decide +kernel
theorem dJx4a65c_init_da8c8_1 : decode cJx4a65c_init_da8c8 1 = .ok (.invokespecial 1, 3) := by decide +kernel
theorem dJx4a65c_init_da8c8_4 : decode cJx4a65c_init_da8c8 4 = .ok (.aload_n 0, 1) := by decide +kernel
theorem dJx4a65c_init_da8c8_5 : decode cJx4a65c_init_da8c8 5 = .ok (.getstatic 39, 3) := by decide +kernel
theorem dJx4a65c_init_da8c8_8 : decode cJx4a65c_init_da8c8 8 = .ok (.putfield 9, 3) := by decide +kernel
theorem dJx4a65c_init_da8c8_11 : decode cJx4a65c_init_da8c8 11 = .ok (.return_, 1) := by decide +kernel
theorem dJx4a65c_grow_92f84_0 : decode cJx4a65c_grow_92f84 0 = .ok (.aload_n 0, 1) := by decide +kernel
theorem dJx4a65c_grow_92f84_1 : decode cJx4a65c_grow_92f84 1 = .ok (.getfield 9, 3) := by decide +kernel
theorem dJx4a65c_grow_92f84_4 : decode cJx4a65c_grow_92f84 4 = .ok (.arraylength, 1) := by decide +kernel
theorem dJx4a65c_grow_92f84_5 : decode cJx4a65c_grow_92f84 5 = .ok (.istore_n 2, 1) := by decide +kernel
theorem dJx4a65c_grow_92f84_6 : decode cJx4a65c_grow_92f84 6 = .ok (.iload_n 2, 1) := by decide +kernel
theorem dJx4a65c_grow_92f84_7 : decode cJx4a65c_grow_92f84 7 = .ok (.ifCond .gt 13, 3) := by decide +kernel
theorem dJx4a65c_grow_92f84_10 : decode cJx4a65c_grow_92f84 10 = .ok (.aload_n 0, 1) := by decide +kernel
theorem dJx4a65c_grow_92f84_11 : decode cJx4a65c_grow_92f84 11 = .ok (.getfield 9, 3) := by decide +kernel
theorem dJx4a65c_grow_92f84_14 : decode cJx4a65c_grow_92f84 14 = .ok (.getstatic 39, 3) := by decide +kernel
theorem dJx4a65c_grow_92f84_17 : decode cJx4a65c_grow_92f84 17 = .ok (.if_acmp .eq 28, 3) := by decide +kernel
theorem dJx4a65c_grow_92f84_20 : decode cJx4a65c_grow_92f84 20 = .ok (.iload_n 2, 1) := by decide +kernel
theorem dJx4a65c_grow_92f84_21 : decode cJx4a65c_grow_92f84 21 = .ok (.iload_n 1, 1) := by decide +kernel
theorem dJx4a65c_grow_92f84_22 : decode cJx4a65c_grow_92f84 22 = .ok (.iload_n 2, 1) := by decide +kernel
theorem dJx4a65c_grow_92f84_23 : decode cJx4a65c_grow_92f84 23 = .ok (.isub, 1) := by decide +kernel
theorem dJx4a65c_grow_92f84_24 : decode cJx4a65c_grow_92f84 24 = .ok (.iload_n 2, 1) := by decide +kernel
theorem dJx4a65c_grow_92f84_25 : decode cJx4a65c_grow_92f84 25 = .ok (.iconst 1, 1) := by decide +kernel
theorem dJx4a65c_grow_92f84_26 : decode cJx4a65c_grow_92f84 26 = .ok (.ishr, 1) := by decide +kernel
theorem dJx4a65c_grow_92f84_27 : decode cJx4a65c_grow_92f84 27 = .ok (.invokestatic 73, 3) := by decide +kernel
theorem dJx4a65c_grow_92f84_30 : decode cJx4a65c_grow_92f84 30 = .ok (.istore_n 3, 1) := by decide +kernel
theorem dJx4a65c_grow_92f84_31 : decode cJx4a65c_grow_92f84 31 = .ok (.aload_n 0, 1) := by decide +kernel
theorem dJx4a65c_grow_92f84_32 : decode cJx4a65c_grow_92f84 32 = .ok (.aload_n 0, 1) := by decide +kernel
theorem dJx4a65c_grow_92f84_33 : decode cJx4a65c_grow_92f84 33 = .ok (.getfield 9, 3) := by decide +kernel
theorem dJx4a65c_grow_92f84_36 : decode cJx4a65c_grow_92f84 36 = .ok (.iload_n 3, 1) := by decide +kernel
theorem dJx4a65c_grow_92f84_37 : decode cJx4a65c_grow_92f84 37 = .ok (.invokestatic 66, 3) := by decide +kernel
theorem dJx4a65c_grow_92f84_40 : decode cJx4a65c_grow_92f84 40 = .ok (.dup_x1, 1) := by decide +kernel
theorem dJx4a65c_grow_92f84_41 : decode cJx4a65c_grow_92f84 41 = .ok (.putfield 9, 3) := by decide +kernel
theorem dJx4a65c_grow_92f84_44 : decode cJx4a65c_grow_92f84 44 = .ok (.areturn, 1) := by decide +kernel
theorem dJx4a65c_grow_92f84_45 : decode cJx4a65c_grow_92f84 45 = .ok (.aload_n 0, 1) := by decide +kernel
theorem dJx4a65c_grow_92f84_46 : decode cJx4a65c_grow_92f84 46 = .ok (.bipush 10, 2) := by decide +kernel
theorem dJx4a65c_grow_92f84_48 : decode cJx4a65c_grow_92f84 48 = .ok (.iload_n 1, 1) := by decide +kernel
theorem dJx4a65c_grow_92f84_49 : decode cJx4a65c_grow_92f84 49 = .ok (.invokestatic 79, 3) := by decide +kernel
theorem dJx4a65c_grow_92f84_52 : decode cJx4a65c_grow_92f84 52 = .ok (.anewarray 7, 3) := by decide +kernel
theorem dJx4a65c_grow_92f84_55 : decode cJx4a65c_grow_92f84 55 = .ok (.dup_x1, 1) := by decide +kernel
theorem dJx4a65c_grow_92f84_56 : decode cJx4a65c_grow_92f84 56 = .ok (.putfield 9, 3) := by decide +kernel
theorem dJx4a65c_grow_92f84_59 : decode cJx4a65c_grow_92f84 59 = .ok (.areturn, 1) := by decide +kernel
theorem dJx4a65c_grow_d5877_0 : decode cJx4a65c_grow_d5877 0 = .ok (.aload_n 0, 1) := by decide +kernel
theorem dJx4a65c_grow_d5877_1 : decode cJx4a65c_grow_d5877 1 = .ok (.aload_n 0, 1) := by decide +kernel
theorem dJx4a65c_grow_d5877_2 : decode cJx4a65c_grow_d5877 2 = .ok (.getfield 48, 3) := by decide +kernel
theorem dJx4a65c_grow_d5877_5 : decode cJx4a65c_grow_d5877 5 = .ok (.iconst 1, 1) := by decide +kernel
theorem dJx4a65c_grow_d5877_6 : decode cJx4a65c_grow_d5877 6 = .ok (.iadd, 1) := by decide +kernel
theorem dJx4a65c_grow_d5877_7 : decode cJx4a65c_grow_d5877 7 = .ok (.invokevirtual 69, 3) := by decide +kernel
theorem dJx4a65c_grow_d5877_10 : decode cJx4a65c_grow_d5877 10 = .ok (.areturn, 1) := by decide +kernel
theorem dJx4a65c_size_8abf5_0 : decode cJx4a65c_size_8abf5 0 = .ok (.aload_n 0, 1) := by decide +kernel
theorem dJx4a65c_size_8abf5_1 : decode cJx4a65c_size_8abf5 1 = .ok (.getfield 48, 3) := by decide +kernel
theorem dJx4a65c_size_8abf5_4 : decode cJx4a65c_size_8abf5 4 = .ok (.ireturn, 1) := by decide +kernel
theorem dJx4a65c_elementData_915e3_0 : decode cJx4a65c_elementData_915e3 0 = .ok (.aload_n 0, 1) := by decide +kernel
theorem dJx4a65c_elementData_915e3_1 : decode cJx4a65c_elementData_915e3 1 = .ok (.getfield 9, 3) := by decide +kernel
theorem dJx4a65c_elementData_915e3_4 : decode cJx4a65c_elementData_915e3 4 = .ok (.iload_n 1, 1) := by decide +kernel
theorem dJx4a65c_elementData_915e3_5 : decode cJx4a65c_elementData_915e3 5 = .ok (.aaload, 1) := by decide +kernel
theorem dJx4a65c_elementData_915e3_6 : decode cJx4a65c_elementData_915e3 6 = .ok (.areturn, 1) := by decide +kernel
theorem dJx4a65c_get_915e3_0 : decode cJx4a65c_get_915e3 0 = .ok (.iload_n 1, 1) := by decide +kernel
theorem dJx4a65c_get_915e3_1 : decode cJx4a65c_get_915e3 1 = .ok (.aload_n 0, 1) := by decide +kernel
theorem dJx4a65c_get_915e3_2 : decode cJx4a65c_get_915e3 2 = .ok (.getfield 48, 3) := by decide +kernel
theorem dJx4a65c_get_915e3_5 : decode cJx4a65c_get_915e3 5 = .ok (.invokestatic 118, 3) := by decide +kernel
theorem dJx4a65c_get_915e3_8 : decode cJx4a65c_get_915e3 8 = .ok (.pop, 1) := by decide +kernel
theorem dJx4a65c_get_915e3_9 : decode cJx4a65c_get_915e3 9 = .ok (.aload_n 0, 1) := by decide +kernel
theorem dJx4a65c_get_915e3_10 : decode cJx4a65c_get_915e3 10 = .ok (.iload_n 1, 1) := by decide +kernel
theorem dJx4a65c_get_915e3_11 : decode cJx4a65c_get_915e3 11 = .ok (.invokevirtual 123, 3) := by decide +kernel
theorem dJx4a65c_get_915e3_14 : decode cJx4a65c_get_915e3 14 = .ok (.areturn, 1) := by decide +kernel
theorem dJx4a65c_add_72be8_0 : decode cJx4a65c_add_72be8 0 = .ok (.iload_n 3, 1) := by decide +kernel
theorem dJx4a65c_add_72be8_1 : decode cJx4a65c_add_72be8 1 = .ok (.aload_n 2, 1) := by decide +kernel
theorem dJx4a65c_add_72be8_2 : decode cJx4a65c_add_72be8 2 = .ok (.arraylength, 1) := by decide +kernel
theorem dJx4a65c_add_72be8_3 : decode cJx4a65c_add_72be8 3 = .ok (.if_icmp .ne 8, 3) := by decide +kernel
theorem dJx4a65c_add_72be8_6 : decode cJx4a65c_add_72be8 6 = .ok (.aload_n 0, 1) := by decide +kernel
theorem dJx4a65c_add_72be8_7 : decode cJx4a65c_add_72be8 7 = .ok (.invokevirtual 129, 3) := by decide +kernel
theorem dJx4a65c_add_72be8_10 : decode cJx4a65c_add_72be8 10 = .ok (.astore_n 2, 1) := by decide +kernel
theorem dJx4a65c_add_72be8_11 : decode cJx4a65c_add_72be8 11 = .ok (.aload_n 2, 1) := by decide +kernel
theorem dJx4a65c_add_72be8_12 : decode cJx4a65c_add_72be8 12 = .ok (.iload_n 3, 1) := by decide +kernel
theorem dJx4a65c_add_72be8_13 : decode cJx4a65c_add_72be8 13 = .ok (.aload_n 1, 1) := by decide +kernel
theorem dJx4a65c_add_72be8_14 : decode cJx4a65c_add_72be8 14 = .ok (.aastore, 1) := by decide +kernel
theorem dJx4a65c_add_72be8_15 : decode cJx4a65c_add_72be8 15 = .ok (.aload_n 0, 1) := by decide +kernel
theorem dJx4a65c_add_72be8_16 : decode cJx4a65c_add_72be8 16 = .ok (.iload_n 3, 1) := by decide +kernel
theorem dJx4a65c_add_72be8_17 : decode cJx4a65c_add_72be8 17 = .ok (.iconst 1, 1) := by decide +kernel
theorem dJx4a65c_add_72be8_18 : decode cJx4a65c_add_72be8 18 = .ok (.iadd, 1) := by decide +kernel
theorem dJx4a65c_add_72be8_19 : decode cJx4a65c_add_72be8 19 = .ok (.putfield 48, 3) := by decide +kernel
theorem dJx4a65c_add_72be8_22 : decode cJx4a65c_add_72be8 22 = .ok (.return_, 1) := by decide +kernel
theorem dJx4a65c_add_9ea2d_0 : decode cJx4a65c_add_9ea2d 0 = .ok (.aload_n 0, 1) := by decide +kernel
theorem dJx4a65c_add_9ea2d_1 : decode cJx4a65c_add_9ea2d 1 = .ok (.dup, 1) := by decide +kernel
theorem dJx4a65c_add_9ea2d_2 : decode cJx4a65c_add_9ea2d 2 = .ok (.getfield 63, 3) := by decide +kernel
theorem dJx4a65c_add_9ea2d_5 : decode cJx4a65c_add_9ea2d 5 = .ok (.iconst 1, 1) := by decide +kernel
theorem dJx4a65c_add_9ea2d_6 : decode cJx4a65c_add_9ea2d 6 = .ok (.iadd, 1) := by decide +kernel
theorem dJx4a65c_add_9ea2d_7 : decode cJx4a65c_add_9ea2d 7 = .ok (.putfield 63, 3) := by decide +kernel
theorem dJx4a65c_add_9ea2d_10 : decode cJx4a65c_add_9ea2d 10 = .ok (.aload_n 0, 1) := by decide +kernel
theorem dJx4a65c_add_9ea2d_11 : decode cJx4a65c_add_9ea2d 11 = .ok (.aload_n 1, 1) := by decide +kernel
theorem dJx4a65c_add_9ea2d_12 : decode cJx4a65c_add_9ea2d 12 = .ok (.aload_n 0, 1) := by decide +kernel
theorem dJx4a65c_add_9ea2d_13 : decode cJx4a65c_add_9ea2d 13 = .ok (.getfield 9, 3) := by decide +kernel
theorem dJx4a65c_add_9ea2d_16 : decode cJx4a65c_add_9ea2d 16 = .ok (.aload_n 0, 1) := by decide +kernel
theorem dJx4a65c_add_9ea2d_17 : decode cJx4a65c_add_9ea2d 17 = .ok (.getfield 48, 3) := by decide +kernel
theorem dJx4a65c_add_9ea2d_20 : decode cJx4a65c_add_9ea2d 20 = .ok (.invokevirtual 131, 3) := by decide +kernel
theorem dJx4a65c_add_9ea2d_23 : decode cJx4a65c_add_9ea2d 23 = .ok (.iconst 1, 1) := by decide +kernel
theorem dJx4a65c_add_9ea2d_24 : decode cJx4a65c_add_9ea2d 24 = .ok (.ireturn, 1) := by decide +kernel
theorem dJ7_copyOf_1904c_0 : decode cJ7_copyOf_1904c 0 = .ok (.aload_n 0, 1) := by decide +kernel
theorem dJ7_copyOf_1904c_1 : decode cJ7_copyOf_1904c 1 = .ok (.iload_n 1, 1) := by decide +kernel
theorem dJ7_copyOf_1904c_2 : decode cJ7_copyOf_1904c 2 = .ok (.aload_n 0, 1) := by decide +kernel
theorem dJ7_copyOf_1904c_3 : decode cJ7_copyOf_1904c 3 = .ok (.invokevirtual 86, 3) := by decide +kernel
theorem dJ7_copyOf_1904c_6 : decode cJ7_copyOf_1904c 6 = .ok (.invokestatic 300, 3) := by decide +kernel
theorem dJ7_copyOf_1904c_9 : decode cJ7_copyOf_1904c 9 = .ok (.areturn, 1) := by decide +kernel
theorem dJ7_copyOf_6403c_0 : decode cJ7_copyOf_6403c 0 = .ok (.aload_n 2, 1) := by decide +kernel
theorem dJ7_copyOf_6403c_1 : decode cJ7_copyOf_6403c 1 = .ok (.ldc 110, 2) := by decide +kernel
theorem dJ7_copyOf_6403c_3 : decode cJ7_copyOf_6403c 3 = .ok (.if_acmp .ne 10, 3) := by decide +kernel
theorem dJ7_copyOf_6403c_6 : decode cJ7_copyOf_6403c 6 = .ok (.iload_n 1, 1) := by decide +kernel
theorem dJ7_copyOf_6403c_7 : decode cJ7_copyOf_6403c 7 = .ok (.anewarray 2, 3) := by decide +kernel
theorem dJ7_copyOf_6403c_10 : decode cJ7_copyOf_6403c 10 = .ok (.goto 14, 3) := by decide +kernel
theorem dJ7_copyOf_6403c_13 : decode cJ7_copyOf_6403c 13 = .ok (.aload_n 2, 1) := by decide +kernel
theorem dJ7_copyOf_6403c_14 : decode cJ7_copyOf_6403c 14 = .ok (.invokevirtual 90, 3) := by decide +kernel
theorem dJ7_copyOf_6403c_17 : decode cJ7_copyOf_6403c 17 = .ok (.iload_n 1, 1) := by decide +kernel
theorem dJ7_copyOf_6403c_18 : decode cJ7_copyOf_6403c 18 = .ok (.invokestatic 95, 3) := by decide +kernel
theorem dJ7_copyOf_6403c_21 : decode cJ7_copyOf_6403c 21 = .ok (.checkcast 110, 3) := by decide +kernel
theorem dJ7_copyOf_6403c_24 : decode cJ7_copyOf_6403c 24 = .ok (.astore_n 3, 1) := by decide +kernel
theorem dJ7_copyOf_6403c_25 : decode cJ7_copyOf_6403c 25 = .ok (.aload_n 0, 1) := by decide +kernel
theorem dJ7_copyOf_6403c_26 : decode cJ7_copyOf_6403c 26 = .ok (.iconst 0, 1) := by decide +kernel
theorem dJ7_copyOf_6403c_27 : decode cJ7_copyOf_6403c 27 = .ok (.aload_n 3, 1) := by decide +kernel
theorem dJ7_copyOf_6403c_28 : decode cJ7_copyOf_6403c 28 = .ok (.iconst 0, 1) := by decide +kernel
theorem dJ7_copyOf_6403c_29 : decode cJ7_copyOf_6403c 29 = .ok (.aload_n 0, 1) := by decide +kernel
theorem dJ7_copyOf_6403c_30 : decode cJ7_copyOf_6403c 30 = .ok (.arraylength, 1) := by decide +kernel
theorem dJ7_copyOf_6403c_31 : decode cJ7_copyOf_6403c 31 = .ok (.iload_n 1, 1) := by decide +kernel
theorem dJ7_copyOf_6403c_32 : decode cJ7_copyOf_6403c 32 = .ok (.invokestatic 304, 3) := by decide +kernel
theorem dJ7_copyOf_6403c_35 : decode cJ7_copyOf_6403c 35 = .ok (.invokestatic 150, 3) := by decide +kernel
theorem dJ7_copyOf_6403c_38 : decode cJ7_copyOf_6403c 38 = .ok (.aload_n 3, 1) := by decide +kernel
theorem dJ7_copyOf_6403c_39 : decode cJ7_copyOf_6403c 39 = .ok (.areturn, 1) := by decide +kernel
theorem dJ15_checkIndex_7cf53_0 : decode cJ15_checkIndex_7cf53 0 = .ok (.iload_n 0, 1) := by decide +kernel
theorem dJ15_checkIndex_7cf53_1 : decode cJ15_checkIndex_7cf53 1 = .ok (.iload_n 1, 1) := by decide +kernel
theorem dJ15_checkIndex_7cf53_2 : decode cJ15_checkIndex_7cf53 2 = .ok (.aconst_null, 1) := by decide +kernel
theorem dJ15_checkIndex_7cf53_3 : decode cJ15_checkIndex_7cf53 3 = .ok (.invokestatic 105, 3) := by decide +kernel
theorem dJ15_checkIndex_7cf53_6 : decode cJ15_checkIndex_7cf53 6 = .ok (.ireturn, 1) := by decide +kernel
theorem dJ8_newLength_cabcc_0 : decode cJ8_newLength_cabcc 0 = .ok (.iload_n 0, 1) := by decide +kernel
theorem dJ8_newLength_cabcc_1 : decode cJ8_newLength_cabcc 1 = .ok (.iload_n 1, 1) := by decide +kernel
theorem dJ8_newLength_cabcc_2 : decode cJ8_newLength_cabcc 2 = .ok (.iload_n 2, 1) := by decide +kernel
theorem dJ8_newLength_cabcc_3 : decode cJ8_newLength_cabcc 3 = .ok (.invokestatic 194, 3) := by decide +kernel
theorem dJ8_newLength_cabcc_6 : decode cJ8_newLength_cabcc 6 = .ok (.iadd, 1) := by decide +kernel
theorem dJ8_newLength_cabcc_7 : decode cJ8_newLength_cabcc 7 = .ok (.istore_n 3, 1) := by decide +kernel
theorem dJ8_newLength_cabcc_8 : decode cJ8_newLength_cabcc 8 = .ok (.iconst 0, 1) := by decide +kernel
theorem dJ8_newLength_cabcc_9 : decode cJ8_newLength_cabcc 9 = .ok (.iload_n 3, 1) := by decide +kernel
theorem dJ8_newLength_cabcc_10 : decode cJ8_newLength_cabcc 10 = .ok (.if_icmp .ge 11, 3) := by decide +kernel
theorem dJ8_newLength_cabcc_13 : decode cJ8_newLength_cabcc 13 = .ok (.iload_n 3, 1) := by decide +kernel
theorem dJ8_newLength_cabcc_14 : decode cJ8_newLength_cabcc 14 = .ok (.ldc 200, 2) := by decide +kernel
theorem dJ8_newLength_cabcc_16 : decode cJ8_newLength_cabcc 16 = .ok (.if_icmp .gt 5, 3) := by decide +kernel
theorem dJ8_newLength_cabcc_19 : decode cJ8_newLength_cabcc 19 = .ok (.iload_n 3, 1) := by decide +kernel
theorem dJ8_newLength_cabcc_20 : decode cJ8_newLength_cabcc 20 = .ok (.ireturn, 1) := by decide +kernel
theorem dJ8_newLength_cabcc_21 : decode cJ8_newLength_cabcc 21 = .ok (.iload_n 0, 1) := by decide +kernel
theorem dJ8_newLength_cabcc_22 : decode cJ8_newLength_cabcc 22 = .ok (.iload_n 1, 1) := by decide +kernel
theorem dJ8_newLength_cabcc_23 : decode cJ8_newLength_cabcc 23 = .ok (.invokestatic 201, 3) := by decide +kernel
theorem dJ8_newLength_cabcc_26 : decode cJ8_newLength_cabcc 26 = .ok (.ireturn, 1) := by decide +kernel
theorem dJ8_hugeLength_7cf53_0 : decode cJ8_hugeLength_7cf53 0 = .ok (.iload_n 0, 1) := by decide +kernel
theorem dJ8_hugeLength_7cf53_1 : decode cJ8_hugeLength_7cf53 1 = .ok (.iload_n 1, 1) := by decide +kernel
theorem dJ8_hugeLength_7cf53_2 : decode cJ8_hugeLength_7cf53 2 = .ok (.iadd, 1) := by decide +kernel
theorem dJ8_hugeLength_7cf53_3 : decode cJ8_hugeLength_7cf53 3 = .ok (.istore_n 2, 1) := by decide +kernel
theorem dJ8_hugeLength_7cf53_4 : decode cJ8_hugeLength_7cf53 4 = .ok (.iload_n 2, 1) := by decide +kernel
theorem dJ8_hugeLength_7cf53_5 : decode cJ8_hugeLength_7cf53 5 = .ok (.ifCond .ge 44, 3) := by decide +kernel
theorem dJ8_hugeLength_7cf53_8 : decode cJ8_hugeLength_7cf53 8 = .ok (.new 204, 3) := by decide +kernel
theorem dJ8_hugeLength_7cf53_11 : decode cJ8_hugeLength_7cf53 11 = .ok (.dup, 1) := by decide +kernel
theorem dJ8_hugeLength_7cf53_12 : decode cJ8_hugeLength_7cf53 12 = .ok (.new 89, 3) := by decide +kernel
theorem dJ8_hugeLength_7cf53_15 : decode cJ8_hugeLength_7cf53 15 = .ok (.dup, 1) := by decide +kernel
theorem dJ8_hugeLength_7cf53_16 : decode cJ8_hugeLength_7cf53 16 = .ok (.invokespecial 91, 3) := by decide +kernel
theorem dJ8_hugeLength_7cf53_19 : decode cJ8_hugeLength_7cf53 19 = .ok (.ldc 206, 2) := by decide +kernel
theorem dJ8_hugeLength_7cf53_21 : decode cJ8_hugeLength_7cf53 21 = .ok (.invokevirtual 94, 3) := by decide +kernel
theorem dJ8_hugeLength_7cf53_24 : decode cJ8_hugeLength_7cf53 24 = .ok (.iload_n 0, 1) := by decide +kernel
theorem dJ8_hugeLength_7cf53_25 : decode cJ8_hugeLength_7cf53 25 = .ok (.invokevirtual 98, 3) := by decide +kernel
theorem dJ8_hugeLength_7cf53_28 : decode cJ8_hugeLength_7cf53 28 = .ok (.ldc 208, 2) := by decide +kernel
theorem dJ8_hugeLength_7cf53_30 : decode cJ8_hugeLength_7cf53 30 = .ok (.invokevirtual 94, 3) := by decide +kernel
theorem dJ8_hugeLength_7cf53_33 : decode cJ8_hugeLength_7cf53 33 = .ok (.iload_n 1, 1) := by decide +kernel
theorem dJ8_hugeLength_7cf53_34 : decode cJ8_hugeLength_7cf53 34 = .ok (.invokevirtual 98, 3) := by decide +kernel
theorem dJ8_hugeLength_7cf53_37 : decode cJ8_hugeLength_7cf53 37 = .ok (.ldc 210, 2) := by decide +kernel
theorem dJ8_hugeLength_7cf53_39 : decode cJ8_hugeLength_7cf53 39 = .ok (.invokevirtual 94, 3) := by decide +kernel
theorem dJ8_hugeLength_7cf53_42 : decode cJ8_hugeLength_7cf53 42 = .ok (.invokevirtual 101, 3) := by decide +kernel
theorem dJ8_hugeLength_7cf53_45 : decode cJ8_hugeLength_7cf53 45 = .ok (.invokespecial 212, 3) := by decide +kernel
theorem dJ8_hugeLength_7cf53_48 : decode cJ8_hugeLength_7cf53 48 = .ok (.athrow, 1) := by decide +kernel
theorem dJ8_hugeLength_7cf53_49 : decode cJ8_hugeLength_7cf53 49 = .ok (.iload_n 2, 1) := by decide +kernel
theorem dJ8_hugeLength_7cf53_50 : decode cJ8_hugeLength_7cf53 50 = .ok (.ldc 200, 2) := by decide +kernel
theorem dJ8_hugeLength_7cf53_52 : decode cJ8_hugeLength_7cf53 52 = .ok (.if_icmp .gt 6, 3) := by decide +kernel
theorem dJ8_hugeLength_7cf53_55 : decode cJ8_hugeLength_7cf53 55 = .ok (.ldc 200, 2) := by decide +kernel
theorem dJ8_hugeLength_7cf53_57 : decode cJ8_hugeLength_7cf53 57 = .ok (.ireturn, 1) := by decide +kernel
theorem dJ8_hugeLength_7cf53_58 : decode cJ8_hugeLength_7cf53 58 = .ok (.iload_n 2, 1) := by decide +kernel
theorem dJ8_hugeLength_7cf53_59 : decode cJ8_hugeLength_7cf53 59 = .ok (.ireturn, 1) := by decide +kernel
theorem dJ3_checkIndex_8e157_0 : decode cJ3_checkIndex_8e157 0 = .ok (.iload_n 0, 1) := by decide +kernel
theorem dJ3_checkIndex_8e157_1 : decode cJ3_checkIndex_8e157 1 = .ok (.ifCond .lt 8, 3) := by decide +kernel
theorem dJ3_checkIndex_8e157_4 : decode cJ3_checkIndex_8e157 4 = .ok (.iload_n 0, 1) := by decide +kernel
theorem dJ3_checkIndex_8e157_5 : decode cJ3_checkIndex_8e157 5 = .ok (.iload_n 1, 1) := by decide +kernel
theorem dJ3_checkIndex_8e157_6 : decode cJ3_checkIndex_8e157 6 = .ok (.if_icmp .lt 10, 3) := by decide +kernel
theorem dJ3_checkIndex_8e157_9 : decode cJ3_checkIndex_8e157 9 = .ok (.aload_n 2, 1) := by decide +kernel
theorem dJ3_checkIndex_8e157_10 : decode cJ3_checkIndex_8e157 10 = .ok (.iload_n 0, 1) := by decide +kernel
theorem dJ3_checkIndex_8e157_11 : decode cJ3_checkIndex_8e157 11 = .ok (.iload_n 1, 1) := by decide +kernel
theorem dJ3_checkIndex_8e157_12 : decode cJ3_checkIndex_8e157 12 = .ok (.invokestatic 95, 3) := by decide +kernel
theorem dJ3_checkIndex_8e157_15 : decode cJ3_checkIndex_8e157 15 = .ok (.athrow, 1) := by decide +kernel
theorem dJ3_checkIndex_8e157_16 : decode cJ3_checkIndex_8e157 16 = .ok (.iload_n 0, 1) := by decide +kernel
theorem dJ3_checkIndex_8e157_17 : decode cJ3_checkIndex_8e157 17 = .ok (.ireturn, 1) := by decide +kernel
