theorem dX7_isTaken_34 : decode cX7_isTaken 34 = .ok (.iaload, 1) := by decide +kernel
theorem dX7_isTaken_35 : decode cX7_isTaken 35 = .ok (.iconst 1, 1) := by decide +kernel
theorem dX7_isTaken_36 : decode cX7_isTaken 36 = .ok (.if_icmp .ne 17, 3) := by decide +kernel
theorem dX7_isTaken_39 : decode cX7_isTaken 39 = .ok (.aload_n 0, 1) := by decide +kernel
theorem dX7_isTaken_40 : decode cX7_isTaken 40 = .ok (.aload 4, 2) := by decide +kernel
theorem dX7_isTaken_42 : decode cX7_isTaken 42 = .ok (.iload_n 1, 1) := by decide +kernel
theorem dX7_isTaken_43 : decode cX7_isTaken 43 = .ok (.invokevirtual 139, 3) := by decide +kernel
theorem dX7_isTaken_46 : decode cX7_isTaken 46 = .ok (.ifCond .eq 7, 3) := by decide +kernel
theorem dX7_isTaken_49 : decode cX7_isTaken 49 = .ok (.iconst 1, 1) := by decide +kernel
theorem dX7_isTaken_50 : decode cX7_isTaken 50 = .ok (.goto 4, 3) := by decide +kernel
theorem dX7_isTaken_53 : decode cX7_isTaken 53 = .ok (.iconst 0, 1) := by decide +kernel
theorem dX7_isTaken_54 : decode cX7_isTaken 54 = .ok (.ior, 1) := by decide +kernel
theorem dX7_isTaken_55 : decode cX7_isTaken 55 = .ok (.istore_n 2, 1) := by decide +kernel
theorem dX7_isTaken_56 : decode cX7_isTaken 56 = .ok (.goto (-46), 3) := by decide +kernel
theorem dX7_isTaken_59 : decode cX7_isTaken 59 = .ok (.iload_n 2, 1) := by decide +kernel
theorem dX7_isTaken_60 : decode cX7_isTaken 60 = .ok (.ireturn, 1) := by decide +kernel
theorem dX7_walk_0 : decode cX7_walk 0 = .ok (.aload_n 0, 1) := by decide +kernel
theorem dX7_walk_1 : decode cX7_walk 1 = .ok (.iload_n 1, 1) := by decide +kernel
theorem dX7_walk_2 : decode cX7_walk 2 = .ok (.invokestatic 72, 3) := by decide +kernel
theorem dX7_walk_5 : decode cX7_walk 5 = .ok (.ifCond .ne 7, 3) := by decide +kernel
theorem dX7_walk_8 : decode cX7_walk 8 = .ok (.iconst 1, 1) := by decide +kernel
theorem dX7_walk_9 : decode cX7_walk 9 = .ok (.goto 20, 3) := by decide +kernel
theorem dX7_walk_12 : decode cX7_walk 12 = .ok (.iload_n 2, 1) := by decide +kernel
theorem dX7_walk_13 : decode cX7_walk 13 = .ok (.bipush 50, 2) := by decide +kernel
theorem dX7_walk_15 : decode cX7_walk 15 = .ok (.sipush 2000, 3) := by decide +kernel
theorem dX7_walk_18 : decode cX7_walk 18 = .ok (.invokestatic 68, 3) := by decide +kernel
theorem dX7_walk_21 : decode cX7_walk 21 = .ok (.ifCond .eq 7, 3) := by decide +kernel
theorem dX7_walk_24 : decode cX7_walk 24 = .ok (.iconst 0, 1) := by decide +kernel
theorem dX7_walk_25 : decode cX7_walk 25 = .ok (.goto 4, 3) := by decide +kernel
theorem dX7_walk_28 : decode cX7_walk 28 = .ok (.iconst 2, 1) := by decide +kernel
theorem dX7_walk_29 : decode cX7_walk 29 = .ok (.putfield 31, 3) := by decide +kernel
theorem dX7_walk_32 : decode cX7_walk 32 = .ok (.aload_n 0, 1) := by decide +kernel
theorem dX7_walk_33 : decode cX7_walk 33 = .ok (.getfield 31, 3) := by decide +kernel
theorem dX7_walk_36 : decode cX7_walk 36 = .ok (.ifCond .le 5, 3) := by decide +kernel
theorem dX7_walk_39 : decode cX7_walk 39 = .ok (.iconst 0, 1) := by decide +kernel
theorem dX7_walk_40 : decode cX7_walk 40 = .ok (.ireturn, 1) := by decide +kernel
theorem dX7_walk_41 : decode cX7_walk 41 = .ok (.aload_n 0, 1) := by decide +kernel
theorem dX7_walk_42 : decode cX7_walk 42 = .ok (.iload_n 1, 1) := by decide +kernel
theorem dX7_walk_43 : decode cX7_walk 43 = .ok (.invokevirtual 165, 3) := by decide +kernel
theorem dX7_walk_46 : decode cX7_walk 46 = .ok (.ifCond .eq 5, 3) := by decide +kernel
theorem dX7_walk_49 : decode cX7_walk 49 = .ok (.iconst 1, 1) := by decide +kernel
theorem dX7_walk_50 : decode cX7_walk 50 = .ok (.ireturn, 1) := by decide +kernel
theorem dX7_walk_51 : decode cX7_walk 51 = .ok (.iload_n 1, 1) := by decide +kernel
theorem dX7_walk_52 : decode cX7_walk 52 = .ok (.bipush 10, 2) := by decide +kernel
theorem dX7_walk_54 : decode cX7_walk 54 = .ok (.iadd, 1) := by decide +kernel
theorem dX7_walk_55 : decode cX7_walk 55 = .ok (.bipush 20, 2) := by decide +kernel
theorem dX7_walk_57 : decode cX7_walk 57 = .ok (.irem, 1) := by decide +kernel
theorem dX7_walk_58 : decode cX7_walk 58 = .ok (.istore_n 3, 1) := by decide +kernel
theorem dX7_walk_59 : decode cX7_walk 59 = .ok (.aload_n 0, 1) := by decide +kernel
theorem dX7_walk_60 : decode cX7_walk 60 = .ok (.getfield 11, 3) := by decide +kernel
theorem dX7_walk_63 : decode cX7_walk 63 = .ok (.iload_n 1, 1) := by decide +kernel
theorem dX7_walk_64 : decode cX7_walk 64 = .ok (.aaload, 1) := by decide +kernel
theorem dX7_walk_65 : decode cX7_walk 65 = .ok (.bipush 6, 2) := by decide +kernel
theorem dX7_walk_67 : decode cX7_walk 67 = .ok (.iaload, 1) := by decide +kernel
theorem dX7_walk_68 : decode cX7_walk 68 = .ok (.aload_n 0, 1) := by decide +kernel
theorem dX7_walk_69 : decode cX7_walk 69 = .ok (.iload_n 3, 1) := by decide +kernel
theorem dX7_walk_70 : decode cX7_walk 70 = .ok (.invokevirtual 165, 3) := by decide +kernel
theorem dX7_walk_73 : decode cX7_walk 73 = .ok (.ifCond .eq 7, 3) := by decide +kernel
theorem dX7_walk_76 : decode cX7_walk 76 = .ok (.iconst 0, 1) := by decide +kernel
theorem dX7_walk_77 : decode cX7_walk 77 = .ok (.goto 12, 3) := by decide +kernel
theorem dX7_walk_80 : decode cX7_walk 80 = .ok (.aload_n 0, 1) := by decide +kernel
theorem dX7_walk_81 : decode cX7_walk 81 = .ok (.getfield 11, 3) := by decide +kernel
theorem dX7_walk_84 : decode cX7_walk 84 = .ok (.iload_n 3, 1) := by decide +kernel
theorem dX7_walk_85 : decode cX7_walk 85 = .ok (.aaload, 1) := by decide +kernel
theorem dX7_walk_86 : decode cX7_walk 86 = .ok (.bipush 6, 2) := by decide +kernel
theorem dX7_walk_88 : decode cX7_walk 88 = .ok (.iaload, 1) := by decide +kernel
theorem dX7_walk_89 : decode cX7_walk 89 = .ok (.invokestatic 150, 3) := by decide +kernel
theorem dX7_walk_92 : decode cX7_walk 92 = .ok (.istore 4, 2) := by decide +kernel
theorem dX7_walk_94 : decode cX7_walk 94 = .ok (.iload 4, 2) := by decide +kernel
theorem dX7_walk_96 : decode cX7_walk 96 = .ok (.ifCond .eq 18, 3) := by decide +kernel
theorem dX7_walk_99 : decode cX7_walk 99 = .ok (.iload_n 2, 1) := by decide +kernel
theorem dX7_walk_100 : decode cX7_walk 100 = .ok (.bipush 36, 2) := by decide +kernel
theorem dX7_walk_102 : decode cX7_walk 102 = .ok (.imul, 1) := by decide +kernel
theorem dX7_walk_103 : decode cX7_walk 103 = .ok (.bipush 10, 2) := by decide +kernel
theorem dX7_walk_105 : decode cX7_walk 105 = .ok (.iload 4, 2) := by decide +kernel
theorem dX7_walk_107 : decode cX7_walk 107 = .ok (.imul, 1) := by decide +kernel
theorem dX7_walk_108 : decode cX7_walk 108 = .ok (.idiv, 1) := by decide +kernel
theorem dX7_walk_109 : decode cX7_walk 109 = .ok (.bipush 25, 2) := by decide +kernel
theorem dX7_walk_111 : decode cX7_walk 111 = .ok (.if_icmp .lt 7, 3) := by decide +kernel
theorem dX7_walk_114 : decode cX7_walk 114 = .ok (.iconst 1, 1) := by decide +kernel
theorem dX7_walk_115 : decode cX7_walk 115 = .ok (.goto 4, 3) := by decide +kernel
theorem dX7_walk_118 : decode cX7_walk 118 = .ok (.iconst 0, 1) := by decide +kernel
theorem dX7_walk_119 : decode cX7_walk 119 = .ok (.istore 5, 2) := by decide +kernel
theorem dX7_walk_121 : decode cX7_walk 121 = .ok (.aload_n 0, 1) := by decide +kernel
theorem dX7_walk_122 : decode cX7_walk 122 = .ok (.dup, 1) := by decide +kernel
theorem dX7_walk_123 : decode cX7_walk 123 = .ok (.getfield 168, 3) := by decide +kernel
theorem dX7_walk_126 : decode cX7_walk 126 = .ok (.iload 5, 2) := by decide +kernel
theorem dX7_walk_128 : decode cX7_walk 128 = .ok (.ifCond .eq 7, 3) := by decide +kernel
theorem dX7_walk_131 : decode cX7_walk 131 = .ok (.iconst 0, 1) := by decide +kernel
theorem dX7_walk_132 : decode cX7_walk 132 = .ok (.goto 4, 3) := by decide +kernel
theorem dX7_walk_135 : decode cX7_walk 135 = .ok (.iconst 1, 1) := by decide +kernel
theorem dX7_walk_136 : decode cX7_walk 136 = .ok (.iadd, 1) := by decide +kernel
theorem dX7_walk_137 : decode cX7_walk 137 = .ok (.putfield 168, 3) := by decide +kernel
theorem dX7_walk_140 : decode cX7_walk 140 = .ok (.iload 5, 2) := by decide +kernel
theorem dX7_walk_142 : decode cX7_walk 142 = .ok (.ireturn, 1) := by decide +kernel
theorem dX7_ofSectionNow_0 : decode cX7_ofSectionNow 0 = .ok (.iload_n 2, 1) := by decide +kernel
theorem dX7_ofSectionNow_1 : decode cX7_ofSectionNow 1 = .ok (.bipush 7, 2) := by decide +kernel
theorem dX7_ofSectionNow_3 : decode cX7_ofSectionNow 3 = .ok (.if_icmp .ge 14, 3) := by decide +kernel
theorem dX7_ofSectionNow_6 : decode cX7_ofSectionNow 6 = .ok (.aload_n 0, 1) := by decide +kernel
theorem dX7_ofSectionNow_7 : decode cX7_ofSectionNow 7 = .ok (.getfield 11, 3) := by decide +kernel
theorem dX7_ofSectionNow_10 : decode cX7_ofSectionNow 10 = .ok (.iload_n 1, 1) := by decide +kernel
theorem dX7_ofSectionNow_11 : decode cX7_ofSectionNow 11 = .ok (.aaload, 1) := by decide +kernel
theorem dX7_ofSectionNow_12 : decode cX7_ofSectionNow 12 = .ok (.iload_n 2, 1) := by decide +kernel
theorem dX7_ofSectionNow_13 : decode cX7_ofSectionNow 13 = .ok (.iaload, 1) := by decide +kernel
theorem dX7_ofSectionNow_14 : decode cX7_ofSectionNow 14 = .ok (.goto 16, 3) := by decide +kernel
theorem dX7_ofSectionNow_17 : decode cX7_ofSectionNow 17 = .ok (.aload_n 0, 1) := by decide +kernel
theorem dX7_ofSectionNow_18 : decode cX7_ofSectionNow 18 = .ok (.getfield 11, 3) := by decide +kernel
theorem dX7_ofSectionNow_21 : decode cX7_ofSectionNow 21 = .ok (.iload_n 1, 1) := by decide +kernel
theorem dX7_ofSectionNow_22 : decode cX7_ofSectionNow 22 = .ok (.aaload, 1) := by decide +kernel
theorem dX7_ofSectionNow_23 : decode cX7_ofSectionNow 23 = .ok (.aload_n 0, 1) := by decide +kernel
theorem dX7_ofSectionNow_24 : decode cX7_ofSectionNow 24 = .ok (.getfield 27, 3) := by decide +kernel
theorem dX7_ofSectionNow_27 : decode cX7_ofSectionNow 27 = .ok (.invokestatic 44, 3) := by decide +kernel
theorem dX7_ofSectionNow_30 : decode cX7_ofSectionNow 30 = .ok (.ireturn, 1) := by decide +kernel
theorem dX7_ofSection_0 : decode cX7_ofSection 0 = .ok (.aload_n 0, 1) := by decide +kernel
theorem dX7_ofSection_1 : decode cX7_ofSection 1 = .ok (.iconst 0, 1) := by decide +kernel
theorem dX7_ofSection_2 : decode cX7_ofSection 2 = .ok (.putfield 31, 3) := by decide +kernel
theorem dX7_ofSection_5 : decode cX7_ofSection 5 = .ok (.iload_n 1, 1) := by decide +kernel
theorem dX7_ofSection_6 : decode cX7_ofSection 6 = .ok (.invokestatic 72, 3) := by decide +kernel
theorem dX7_ofSection_9 : decode cX7_ofSection 9 = .ok (.ifCond .ne 9, 3) := by decide +kernel
theorem dX7_ofSection_12 : decode cX7_ofSection 12 = .ok (.aload_n 0, 1) := by decide +kernel
theorem dX7_ofSection_13 : decode cX7_ofSection 13 = .ok (.iconst 1, 1) := by decide +kernel
theorem dX7_ofSection_14 : decode cX7_ofSection 14 = .ok (.invokevirtual 76, 3) := by decide +kernel
theorem dX7_ofSection_17 : decode cX7_ofSection 17 = .ok (.ireturn, 1) := by decide +kernel
theorem dX7_ofSection_18 : decode cX7_ofSection 18 = .ok (.iload_n 2, 1) := by decide +kernel
theorem dX7_ofSection_19 : decode cX7_ofSection 19 = .ok (.iconst 0, 1) := by decide +kernel
theorem dX7_ofSection_20 : decode cX7_ofSection 20 = .ok (.bipush 7, 2) := by decide +kernel
theorem dX7_ofSection_22 : decode cX7_ofSection 22 = .ok (.invokestatic 68, 3) := by decide +kernel
theorem dX7_ofSection_25 : decode cX7_ofSection 25 = .ok (.ifCond .eq 12, 3) := by decide +kernel
theorem dX7_ofSection_28 : decode cX7_ofSection 28 = .ok (.aload_n 0, 1) := by decide +kernel
theorem dX7_ofSection_29 : decode cX7_ofSection 29 = .ok (.iload_n 1, 1) := by decide +kernel
theorem dX7_ofSection_30 : decode cX7_ofSection 30 = .ok (.iload_n 2, 1) := by decide +kernel
theorem dX7_ofSection_31 : decode cX7_ofSection 31 = .ok (.invokevirtual 171, 3) := by decide +kernel
theorem dX7_ofSection_34 : decode cX7_ofSection 34 = .ok (.goto 8, 3) := by decide +kernel
theorem dX7_ofSection_37 : decode cX7_ofSection 37 = .ok (.aload_n 0, 1) := by decide +kernel
theorem dX7_ofSection_38 : decode cX7_ofSection 38 = .ok (.iconst 2, 1) := by decide +kernel
theorem dX7_ofSection_39 : decode cX7_ofSection 39 = .ok (.invokevirtual 76, 3) := by decide +kernel
theorem dX7_ofSection_42 : decode cX7_ofSection 42 = .ok (.ireturn, 1) := by decide +kernel
theorem dX7_knownNow_0 : decode cX7_knownNow 0 = .ok (.iload_n 2, 1) := by decide +kernel
theorem dX7_knownNow_1 : decode cX7_knownNow 1 = .ok (.iconst 4, 1) := by decide +kernel
theorem dX7_knownNow_2 : decode cX7_knownNow 2 = .ok (.if_icmp .ne 9, 3) := by decide +kernel
theorem dX7_knownNow_5 : decode cX7_knownNow 5 = .ok (.aload_n 0, 1) := by decide +kernel
theorem dX7_knownNow_6 : decode cX7_knownNow 6 = .ok (.iload_n 1, 1) := by decide +kernel
theorem dX7_knownNow_7 : decode cX7_knownNow 7 = .ok (.invokevirtual 48, 3) := by decide +kernel
theorem dX7_knownNow_10 : decode cX7_knownNow 10 = .ok (.ireturn, 1) := by decide +kernel
theorem dX7_knownNow_11 : decode cX7_knownNow 11 = .ok (.aload_n 0, 1) := by decide +kernel
theorem dX7_knownNow_12 : decode cX7_knownNow 12 = .ok (.iload_n 1, 1) := by decide +kernel
theorem dX7_knownNow_13 : decode cX7_knownNow 13 = .ok (.invokevirtual 174, 3) := by decide +kernel
theorem dX7_knownNow_16 : decode cX7_knownNow 16 = .ok (.astore_n 3, 1) := by decide +kernel
theorem dX7_knownNow_17 : decode cX7_knownNow 17 = .ok (.iload_n 2, 1) := by decide +kernel
theorem dX7_knownNow_18 : decode cX7_knownNow 18 = .ok (.iconst 3, 1) := by decide +kernel
theorem dX7_knownNow_19 : decode cX7_knownNow 19 = .ok (.if_icmp .ge 9, 3) := by decide +kernel
theorem dX7_knownNow_22 : decode cX7_knownNow 22 = .ok (.aload_n 3, 1) := by decide +kernel
theorem dX7_knownNow_23 : decode cX7_knownNow 23 = .ok (.iload_n 2, 1) := by decide +kernel
theorem dX7_knownNow_24 : decode cX7_knownNow 24 = .ok (.iaload, 1) := by decide +kernel
theorem dX7_knownNow_25 : decode cX7_knownNow 25 = .ok (.goto 11, 3) := by decide +kernel
theorem dX7_knownNow_28 : decode cX7_knownNow 28 = .ok (.aload_n 3, 1) := by decide +kernel
theorem dX7_knownNow_29 : decode cX7_knownNow 29 = .ok (.aload_n 0, 1) := by decide +kernel
theorem dX7_knownNow_30 : decode cX7_knownNow 30 = .ok (.getfield 27, 3) := by decide +kernel
theorem dX7_knownNow_33 : decode cX7_knownNow 33 = .ok (.invokestatic 44, 3) := by decide +kernel
theorem dX7_knownNow_36 : decode cX7_knownNow 36 = .ok (.ireturn, 1) := by decide +kernel
theorem dX7_known_0 : decode cX7_known 0 = .ok (.aload_n 0, 1) := by decide +kernel
theorem dX7_known_1 : decode cX7_known 1 = .ok (.iconst 0, 1) := by decide +kernel
theorem dX7_known_2 : decode cX7_known 2 = .ok (.putfield 31, 3) := by decide +kernel
theorem dX7_known_5 : decode cX7_known 5 = .ok (.iload_n 1, 1) := by decide +kernel
theorem dX7_known_6 : decode cX7_known 6 = .ok (.invokestatic 72, 3) := by decide +kernel
theorem dX7_known_9 : decode cX7_known 9 = .ok (.ifCond .ne 9, 3) := by decide +kernel
theorem dX7_known_12 : decode cX7_known 12 = .ok (.aload_n 0, 1) := by decide +kernel
theorem dX7_known_13 : decode cX7_known 13 = .ok (.iconst 1, 1) := by decide +kernel
theorem dX7_known_14 : decode cX7_known 14 = .ok (.invokevirtual 76, 3) := by decide +kernel
theorem dX7_known_17 : decode cX7_known 17 = .ok (.ireturn, 1) := by decide +kernel
theorem dX7_known_18 : decode cX7_known 18 = .ok (.iload_n 2, 1) := by decide +kernel
theorem dX7_known_19 : decode cX7_known 19 = .ok (.iconst 0, 1) := by decide +kernel
theorem dX7_known_20 : decode cX7_known 20 = .ok (.iconst 4, 1) := by decide +kernel
theorem dX7_known_21 : decode cX7_known 21 = .ok (.invokestatic 68, 3) := by decide +kernel
theorem dX7_known_24 : decode cX7_known 24 = .ok (.ifCond .eq 12, 3) := by decide +kernel
theorem dX7_known_27 : decode cX7_known 27 = .ok (.aload_n 0, 1) := by decide +kernel
theorem dX7_known_28 : decode cX7_known 28 = .ok (.iload_n 1, 1) := by decide +kernel
theorem dX7_known_29 : decode cX7_known 29 = .ok (.iload_n 2, 1) := by decide +kernel
theorem dX7_known_30 : decode cX7_known 30 = .ok (.invokevirtual 178, 3) := by decide +kernel
theorem dX7_known_33 : decode cX7_known 33 = .ok (.goto 8, 3) := by decide +kernel
theorem dX7_known_36 : decode cX7_known 36 = .ok (.aload_n 0, 1) := by decide +kernel
theorem dX7_known_37 : decode cX7_known 37 = .ok (.iconst 2, 1) := by decide +kernel
theorem dX7_known_38 : decode cX7_known 38 = .ok (.invokevirtual 76, 3) := by decide +kernel
theorem dX7_known_41 : decode cX7_known 41 = .ok (.ireturn, 1) := by decide +kernel
theorem dX7_whyNow_0 : decode cX7_whyNow 0 = .ok (.iload_n 2, 1) := by decide +kernel
theorem dX7_whyNow_1 : decode cX7_whyNow 1 = .ok (.ifCond .eq 11, 3) := by decide +kernel
theorem dX7_whyNow_4 : decode cX7_whyNow 4 = .ok (.aload_n 0, 1) := by decide +kernel
theorem dX7_whyNow_5 : decode cX7_whyNow 5 = .ok (.iload_n 1, 1) := by decide +kernel
theorem dX7_whyNow_6 : decode cX7_whyNow 6 = .ok (.invokevirtual 174, 3) := by decide +kernel
theorem dX7_whyNow_9 : decode cX7_whyNow 9 = .ok (.goto 9, 3) := by decide +kernel
theorem dX7_whyNow_12 : decode cX7_whyNow 12 = .ok (.aload_n 0, 1) := by decide +kernel
theorem dX7_whyNow_13 : decode cX7_whyNow 13 = .ok (.getfield 11, 3) := by decide +kernel
theorem dX7_whyNow_16 : decode cX7_whyNow 16 = .ok (.iload_n 1, 1) := by decide +kernel
theorem dX7_whyNow_17 : decode cX7_whyNow 17 = .ok (.aaload, 1) := by decide +kernel
theorem dX7_whyNow_18 : decode cX7_whyNow 18 = .ok (.aload_n 0, 1) := by decide +kernel
theorem dX7_whyNow_19 : decode cX7_whyNow 19 = .ok (.getfield 27, 3) := by decide +kernel
theorem dX7_whyNow_22 : decode cX7_whyNow 22 = .ok (.invokestatic 181, 3) := by decide +kernel
theorem dX7_whyNow_25 : decode cX7_whyNow 25 = .ok (.ireturn, 1) := by decide +kernel
theorem dX7_why_0 : decode cX7_why 0 = .ok (.aload_n 0, 1) := by decide +kernel
theorem dX7_why_1 : decode cX7_why 1 = .ok (.iconst 0, 1) := by decide +kernel
theorem dX7_why_2 : decode cX7_why 2 = .ok (.putfield 31, 3) := by decide +kernel
theorem dX7_why_5 : decode cX7_why 5 = .ok (.iload_n 1, 1) := by decide +kernel
theorem dX7_why_6 : decode cX7_why 6 = .ok (.invokestatic 72, 3) := by decide +kernel
theorem dX7_why_9 : decode cX7_why 9 = .ok (.ifCond .eq 12, 3) := by decide +kernel
theorem dX7_why_12 : decode cX7_why 12 = .ok (.aload_n 0, 1) := by decide +kernel
theorem dX7_why_13 : decode cX7_why 13 = .ok (.iload_n 1, 1) := by decide +kernel
theorem dX7_why_14 : decode cX7_why 14 = .ok (.iload_n 2, 1) := by decide +kernel
theorem dX7_why_15 : decode cX7_why 15 = .ok (.invokevirtual 184, 3) := by decide +kernel
theorem dX7_why_18 : decode cX7_why 18 = .ok (.goto 8, 3) := by decide +kernel
theorem dX7_why_21 : decode cX7_why 21 = .ok (.aload_n 0, 1) := by decide +kernel
theorem dX7_why_22 : decode cX7_why 22 = .ok (.iconst 1, 1) := by decide +kernel
theorem dX7_why_23 : decode cX7_why 23 = .ok (.invokevirtual 76, 3) := by decide +kernel
theorem dX7_why_26 : decode cX7_why 26 = .ok (.ireturn, 1) := by decide +kernel
theorem dX7_ofMachine_0 : decode cX7_ofMachine 0 = .ok (.aload_n 0, 1) := by decide +kernel
theorem dX7_ofMachine_1 : decode cX7_ofMachine 1 = .ok (.iconst 0, 1) := by decide +kernel
theorem dX7_ofMachine_2 : decode cX7_ofMachine 2 = .ok (.putfield 31, 3) := by decide +kernel
theorem dX7_ofMachine_5 : decode cX7_ofMachine 5 = .ok (.aload_n 0, 1) := by decide +kernel
theorem dX7_ofMachine_6 : decode cX7_ofMachine 6 = .ok (.iload_n 1, 1) := by decide +kernel
theorem dX7_ofMachine_7 : decode cX7_ofMachine 7 = .ok (.invokevirtual 125, 3) := by decide +kernel
theorem dX7_ofMachine_10 : decode cX7_ofMachine 10 = .ok (.ifCond .ne 9, 3) := by decide +kernel
theorem dX7_ofMachine_13 : decode cX7_ofMachine 13 = .ok (.aload_n 0, 1) := by decide +kernel
theorem dX7_ofMachine_14 : decode cX7_ofMachine 14 = .ok (.iconst 1, 1) := by decide +kernel
theorem dX7_ofMachine_15 : decode cX7_ofMachine 15 = .ok (.invokevirtual 76, 3) := by decide +kernel
theorem dX7_ofMachine_18 : decode cX7_ofMachine 18 = .ok (.ireturn, 1) := by decide +kernel
theorem dX7_ofMachine_19 : decode cX7_ofMachine 19 = .ok (.iload_n 2, 1) := by decide +kernel
theorem dX7_ofMachine_20 : decode cX7_ofMachine 20 = .ok (.iconst 0, 1) := by decide +kernel
theorem dX7_ofMachine_21 : decode cX7_ofMachine 21 = .ok (.iconst 3, 1) := by decide +kernel
theorem dX7_ofMachine_22 : decode cX7_ofMachine 22 = .ok (.invokestatic 68, 3) := by decide +kernel
theorem dX7_ofMachine_25 : decode cX7_ofMachine 25 = .ok (.ifCond .eq 19, 3) := by decide +kernel
theorem dX7_ofMachine_28 : decode cX7_ofMachine 28 = .ok (.aload_n 0, 1) := by decide +kernel
theorem dX7_ofMachine_29 : decode cX7_ofMachine 29 = .ok (.getfield 17, 3) := by decide +kernel
theorem dX7_ofMachine_32 : decode cX7_ofMachine 32 = .ok (.iload_n 1, 1) := by decide +kernel
theorem dX7_ofMachine_33 : decode cX7_ofMachine 33 = .ok (.invokevirtual 52, 3) := by decide +kernel
theorem dX7_ofMachine_36 : decode cX7_ofMachine 36 = .ok (.checkcast 56, 3) := by decide +kernel
theorem dX7_ofMachine_39 : decode cX7_ofMachine 39 = .ok (.iload_n 2, 1) := by decide +kernel
theorem dX7_ofMachine_40 : decode cX7_ofMachine 40 = .ok (.iaload, 1) := by decide +kernel
theorem dX7_ofMachine_41 : decode cX7_ofMachine 41 = .ok (.goto 8, 3) := by decide +kernel
theorem dX7_ofMachine_44 : decode cX7_ofMachine 44 = .ok (.aload_n 0, 1) := by decide +kernel
theorem dX7_ofMachine_45 : decode cX7_ofMachine 45 = .ok (.iconst 2, 1) := by decide +kernel
theorem dX7_ofMachine_46 : decode cX7_ofMachine 46 = .ok (.invokevirtual 76, 3) := by decide +kernel
theorem dX7_ofMachine_49 : decode cX7_ofMachine 49 = .ok (.ireturn, 1) := by decide +kernel
theorem dX7_ofNightNow_0 : decode cX7_ofNightNow 0 = .ok (.iload_n 2, 1) := by decide +kernel
theorem dX7_ofNightNow_1 : decode cX7_ofNightNow 1 = .ok (.bipush 8, 2) := by decide +kernel
theorem dX7_ofNightNow_3 : decode cX7_ofNightNow 3 = .ok (.if_icmp .ne 23, 3) := by decide +kernel
theorem dX7_ofNightNow_6 : decode cX7_ofNightNow 6 = .ok (.aload_n 0, 1) := by decide +kernel
theorem dX7_ofNightNow_7 : decode cX7_ofNightNow 7 = .ok (.getfield 21, 3) := by decide +kernel
theorem dX7_ofNightNow_10 : decode cX7_ofNightNow 10 = .ok (.iload_n 1, 1) := by decide +kernel
theorem dX7_ofNightNow_11 : decode cX7_ofNightNow 11 = .ok (.invokevirtual 52, 3) := by decide +kernel
theorem dX7_ofNightNow_14 : decode cX7_ofNightNow 14 = .ok (.checkcast 56, 3) := by decide +kernel
theorem dX7_ofNightNow_17 : decode cX7_ofNightNow 17 = .ok (.bipush 8, 2) := by decide +kernel
theorem dX7_ofNightNow_19 : decode cX7_ofNightNow 19 = .ok (.iaload, 1) := by decide +kernel
theorem dX7_ofNightNow_20 : decode cX7_ofNightNow 20 = .ok (.invokestatic 145, 3) := by decide +kernel
theorem dX7_ofNightNow_23 : decode cX7_ofNightNow 23 = .ok (.goto 16, 3) := by decide +kernel
theorem dX7_ofNightNow_26 : decode cX7_ofNightNow 26 = .ok (.aload_n 0, 1) := by decide +kernel
theorem dX7_ofNightNow_27 : decode cX7_ofNightNow 27 = .ok (.getfield 21, 3) := by decide +kernel
theorem dX7_ofNightNow_30 : decode cX7_ofNightNow 30 = .ok (.iload_n 1, 1) := by decide +kernel
theorem dX7_ofNightNow_31 : decode cX7_ofNightNow 31 = .ok (.invokevirtual 52, 3) := by decide +kernel
theorem dX7_ofNightNow_34 : decode cX7_ofNightNow 34 = .ok (.checkcast 56, 3) := by decide +kernel
theorem dX7_ofNightNow_37 : decode cX7_ofNightNow 37 = .ok (.iload_n 2, 1) := by decide +kernel
theorem dX7_ofNightNow_38 : decode cX7_ofNightNow 38 = .ok (.iaload, 1) := by decide +kernel
theorem dX7_ofNightNow_39 : decode cX7_ofNightNow 39 = .ok (.ireturn, 1) := by decide +kernel
theorem dX7_ofPossession_0 : decode cX7_ofPossession 0 = .ok (.aload_n 0, 1) := by decide +kernel
theorem dX7_ofPossession_1 : decode cX7_ofPossession 1 = .ok (.iconst 0, 1) := by decide +kernel
theorem dX7_ofPossession_2 : decode cX7_ofPossession 2 = .ok (.putfield 31, 3) := by decide +kernel
theorem dX7_ofPossession_5 : decode cX7_ofPossession 5 = .ok (.aload_n 0, 1) := by decide +kernel
theorem dX7_ofPossession_6 : decode cX7_ofPossession 6 = .ok (.iload_n 1, 1) := by decide +kernel
theorem dX7_ofPossession_7 : decode cX7_ofPossession 7 = .ok (.invokevirtual 136, 3) := by decide +kernel
theorem dX7_ofPossession_10 : decode cX7_ofPossession 10 = .ok (.ifCond .ne 9, 3) := by decide +kernel
theorem dX7_ofPossession_13 : decode cX7_ofPossession 13 = .ok (.aload_n 0, 1) := by decide +kernel
theorem dX7_ofPossession_14 : decode cX7_ofPossession 14 = .ok (.iconst 1, 1) := by decide +kernel
theorem dX7_ofPossession_15 : decode cX7_ofPossession 15 = .ok (.invokevirtual 76, 3) := by decide +kernel
theorem dX7_ofPossession_18 : decode cX7_ofPossession 18 = .ok (.ireturn, 1) := by decide +kernel
theorem dX7_ofPossession_19 : decode cX7_ofPossession 19 = .ok (.iload_n 2, 1) := by decide +kernel
theorem dX7_ofPossession_20 : decode cX7_ofPossession 20 = .ok (.iconst 0, 1) := by decide +kernel
theorem dX7_ofPossession_21 : decode cX7_ofPossession 21 = .ok (.bipush 9, 2) := by decide +kernel
theorem dX7_ofPossession_23 : decode cX7_ofPossession 23 = .ok (.invokestatic 68, 3) := by decide +kernel
theorem dX7_ofPossession_26 : decode cX7_ofPossession 26 = .ok (.ifCond .eq 12, 3) := by decide +kernel
theorem dX7_ofPossession_29 : decode cX7_ofPossession 29 = .ok (.aload_n 0, 1) := by decide +kernel
theorem dX7_ofPossession_30 : decode cX7_ofPossession 30 = .ok (.iload_n 1, 1) := by decide +kernel
theorem dX7_ofPossession_31 : decode cX7_ofPossession 31 = .ok (.iload_n 2, 1) := by decide +kernel
theorem dX7_ofPossession_32 : decode cX7_ofPossession 32 = .ok (.invokevirtual 188, 3) := by decide +kernel
theorem dX7_ofPossession_35 : decode cX7_ofPossession 35 = .ok (.goto 8, 3) := by decide +kernel
theorem dX7_ofPossession_38 : decode cX7_ofPossession 38 = .ok (.aload_n 0, 1) := by decide +kernel
theorem dX7_ofPossession_39 : decode cX7_ofPossession 39 = .ok (.iconst 2, 1) := by decide +kernel
theorem dX7_ofPossession_40 : decode cX7_ofPossession 40 = .ok (.invokevirtual 76, 3) := by decide +kernel
theorem dX7_ofPossession_43 : decode cX7_ofPossession 43 = .ok (.ireturn, 1) := by decide +kernel
theorem dX7_manyNow_0 : decode cX7_manyNow 0 = .ok (.iconst 5, 1) := by decide +kernel
theorem dX7_manyNow_1 : decode cX7_manyNow 1 = .ok (.newarray .int, 2) := by decide +kernel
theorem dX7_manyNow_3 : decode cX7_manyNow 3 = .ok (.astore_n 2, 1) := by decide +kernel
theorem dX7_manyNow_4 : decode cX7_manyNow 4 = .ok (.iconst 0, 1) := by decide +kernel
theorem dX7_manyNow_5 : decode cX7_manyNow 5 = .ok (.istore_n 3, 1) := by decide +kernel
theorem dX7_manyNow_6 : decode cX7_manyNow 6 = .ok (.aload_n 0, 1) := by decide +kernel
theorem dX7_manyNow_7 : decode cX7_manyNow 7 = .ok (.getfield 21, 3) := by decide +kernel
theorem dX7_manyNow_10 : decode cX7_manyNow 10 = .ok (.invokevirtual 79, 3) := by decide +kernel
theorem dX7_manyNow_13 : decode cX7_manyNow 13 = .ok (.astore 4, 2) := by decide +kernel
theorem dX7_manyNow_15 : decode cX7_manyNow 15 = .ok (.aload 4, 2) := by decide +kernel
theorem dX7_manyNow_17 : decode cX7_manyNow 17 = .ok (.invokeinterface 83 1, 5) := by decide +kernel
theorem dX7_manyNow_22 : decode cX7_manyNow 22 = .ok (.ifCond .eq 36, 3) := by decide +kernel
theorem dX7_manyNow_25 : decode cX7_manyNow 25 = .ok (.aload 4, 2) := by decide +kernel
theorem dX7_manyNow_27 : decode cX7_manyNow 27 = .ok (.invokeinterface 89 1, 5) := by decide +kernel
theorem dX7_manyNow_32 : decode cX7_manyNow 32 = .ok (.checkcast 56, 3) := by decide +kernel
theorem dX7_manyNow_35 : decode cX7_manyNow 35 = .ok (.astore 5, 2) := by decide +kernel
theorem dX7_manyNow_37 : decode cX7_manyNow 37 = .ok (.aload_n 2, 1) := by decide +kernel
theorem dX7_manyNow_38 : decode cX7_manyNow 38 = .ok (.aload 5, 2) := by decide +kernel
theorem dX7_manyNow_40 : decode cX7_manyNow 40 = .ok (.iconst 0, 1) := by decide +kernel
theorem dX7_manyNow_41 : decode cX7_manyNow 41 = .ok (.iaload, 1) := by decide +kernel
theorem dX7_manyNow_42 : decode cX7_manyNow 42 = .ok (.dup2, 1) := by decide +kernel
theorem dX7_manyNow_43 : decode cX7_manyNow 43 = .ok (.iaload, 1) := by decide +kernel
theorem dX7_manyNow_44 : decode cX7_manyNow 44 = .ok (.iconst 1, 1) := by decide +kernel
theorem dX7_manyNow_45 : decode cX7_manyNow 45 = .ok (.iadd, 1) := by decide +kernel
theorem dX7_manyNow_46 : decode cX7_manyNow 46 = .ok (.iastore, 1) := by decide +kernel
theorem dX7_manyNow_47 : decode cX7_manyNow 47 = .ok (.iload_n 3, 1) := by decide +kernel
theorem dX7_manyNow_48 : decode cX7_manyNow 48 = .ok (.aload 5, 2) := by decide +kernel
theorem dX7_manyNow_50 : decode cX7_manyNow 50 = .ok (.bipush 9, 2) := by decide +kernel
theorem dX7_manyNow_52 : decode cX7_manyNow 52 = .ok (.iaload, 1) := by decide +kernel
theorem dX7_manyNow_53 : decode cX7_manyNow 53 = .ok (.iadd, 1) := by decide +kernel
theorem dX7_manyNow_54 : decode cX7_manyNow 54 = .ok (.istore_n 3, 1) := by decide +kernel
theorem dX7_manyNow_55 : decode cX7_manyNow 55 = .ok (.goto (-40), 3) := by decide +kernel
theorem dX7_manyNow_58 : decode cX7_manyNow 58 = .ok (.iconst 0, 1) := by decide +kernel
theorem dX7_manyNow_59 : decode cX7_manyNow 59 = .ok (.istore 4, 2) := by decide +kernel
theorem dX7_manyNow_61 : decode cX7_manyNow 61 = .ok (.aload_n 0, 1) := by decide +kernel
theorem dX7_manyNow_62 : decode cX7_manyNow 62 = .ok (.getfield 24, 3) := by decide +kernel
theorem dX7_manyNow_65 : decode cX7_manyNow 65 = .ok (.invokevirtual 79, 3) := by decide +kernel
theorem dX7_manyNow_68 : decode cX7_manyNow 68 = .ok (.astore 5, 2) := by decide +kernel
theorem dX7_manyNow_70 : decode cX7_manyNow 70 = .ok (.aload 5, 2) := by decide +kernel
theorem dX7_manyNow_72 : decode cX7_manyNow 72 = .ok (.invokeinterface 83 1, 5) := by decide +kernel
theorem dX7_manyNow_77 : decode cX7_manyNow 77 = .ok (.ifCond .eq 27, 3) := by decide +kernel
theorem dX7_manyNow_80 : decode cX7_manyNow 80 = .ok (.aload 5, 2) := by decide +kernel
theorem dX7_manyNow_82 : decode cX7_manyNow 82 = .ok (.invokeinterface 89 1, 5) := by decide +kernel
theorem dX7_manyNow_87 : decode cX7_manyNow 87 = .ok (.checkcast 56, 3) := by decide +kernel
theorem dX7_manyNow_90 : decode cX7_manyNow 90 = .ok (.astore 6, 2) := by decide +kernel
theorem dX7_manyNow_92 : decode cX7_manyNow 92 = .ok (.iload 4, 2) := by decide +kernel
theorem dX7_manyNow_94 : decode cX7_manyNow 94 = .ok (.aload 6, 2) := by decide +kernel
theorem dX7_manyNow_96 : decode cX7_manyNow 96 = .ok (.iconst 4, 1) := by decide +kernel
theorem dX7_manyNow_97 : decode cX7_manyNow 97 = .ok (.iaload, 1) := by decide +kernel
theorem dX7_manyNow_98 : decode cX7_manyNow 98 = .ok (.iadd, 1) := by decide +kernel
theorem dX7_manyNow_99 : decode cX7_manyNow 99 = .ok (.istore 4, 2) := by decide +kernel
theorem dX7_manyNow_101 : decode cX7_manyNow 101 = .ok (.goto (-31), 3) := by decide +kernel
theorem dX7_manyNow_104 : decode cX7_manyNow 104 = .ok (.iconst 0, 1) := by decide +kernel
theorem dX7_manyNow_105 : decode cX7_manyNow 105 = .ok (.istore 5, 2) := by decide +kernel
theorem dX7_manyNow_107 : decode cX7_manyNow 107 = .ok (.iconst 0, 1) := by decide +kernel
theorem dX7_manyNow_108 : decode cX7_manyNow 108 = .ok (.istore 6, 2) := by decide +kernel
theorem dX7_manyNow_110 : decode cX7_manyNow 110 = .ok (.iconst 0, 1) := by decide +kernel
theorem dX7_manyNow_111 : decode cX7_manyNow 111 = .ok (.istore 7, 2) := by decide +kernel
theorem dX7_manyNow_113 : decode cX7_manyNow 113 = .ok (.iload 7, 2) := by decide +kernel
theorem dX7_manyNow_115 : decode cX7_manyNow 115 = .ok (.bipush 20, 2) := by decide +kernel
theorem dX7_manyNow_117 : decode cX7_manyNow 117 = .ok (.if_icmp .ge 70, 3) := by decide +kernel
theorem dX7_manyNow_120 : decode cX7_manyNow 120 = .ok (.iload 5, 2) := by decide +kernel
theorem dX7_manyNow_122 : decode cX7_manyNow 122 = .ok (.aload_n 0, 1) := by decide +kernel
theorem dX7_manyNow_123 : decode cX7_manyNow 123 = .ok (.getfield 11, 3) := by decide +kernel
theorem dX7_manyNow_126 : decode cX7_manyNow 126 = .ok (.iload 7, 2) := by decide +kernel
theorem dX7_manyNow_128 : decode cX7_manyNow 128 = .ok (.aaload, 1) := by decide +kernel
theorem dX7_manyNow_129 : decode cX7_manyNow 129 = .ok (.bipush 6, 2) := by decide +kernel
theorem dX7_manyNow_131 : decode cX7_manyNow 131 = .ok (.iaload, 1) := by decide +kernel
theorem dX7_manyNow_132 : decode cX7_manyNow 132 = .ok (.aload_n 0, 1) := by decide +kernel
theorem dX7_manyNow_133 : decode cX7_manyNow 133 = .ok (.iload 7, 2) := by decide +kernel
theorem dX7_manyNow_135 : decode cX7_manyNow 135 = .ok (.bipush 7, 2) := by decide +kernel
theorem dX7_manyNow_137 : decode cX7_manyNow 137 = .ok (.invokevirtual 171, 3) := by decide +kernel
theorem dX7_manyNow_140 : decode cX7_manyNow 140 = .ok (.if_icmp .le 7, 3) := by decide +kernel
theorem dX7_manyNow_143 : decode cX7_manyNow 143 = .ok (.iconst 1, 1) := by decide +kernel
theorem dX7_manyNow_144 : decode cX7_manyNow 144 = .ok (.goto 4, 3) := by decide +kernel
theorem dX7_manyNow_147 : decode cX7_manyNow 147 = .ok (.iconst 0, 1) := by decide +kernel
theorem dX7_manyNow_148 : decode cX7_manyNow 148 = .ok (.iadd, 1) := by decide +kernel
theorem dX7_manyNow_149 : decode cX7_manyNow 149 = .ok (.istore 5, 2) := by decide +kernel
theorem dX7_manyNow_151 : decode cX7_manyNow 151 = .ok (.iload 6, 2) := by decide +kernel
theorem dX7_manyNow_153 : decode cX7_manyNow 153 = .ok (.aload_n 0, 1) := by decide +kernel
theorem dX7_manyNow_154 : decode cX7_manyNow 154 = .ok (.getfield 11, 3) := by decide +kernel
theorem dX7_manyNow_157 : decode cX7_manyNow 157 = .ok (.iload 7, 2) := by decide +kernel
theorem dX7_manyNow_159 : decode cX7_manyNow 159 = .ok (.aaload, 1) := by decide +kernel
theorem dX7_manyNow_160 : decode cX7_manyNow 160 = .ok (.bipush 6, 2) := by decide +kernel
theorem dX7_manyNow_162 : decode cX7_manyNow 162 = .ok (.iaload, 1) := by decide +kernel
theorem dX7_manyNow_163 : decode cX7_manyNow 163 = .ok (.aload_n 0, 1) := by decide +kernel
theorem dX7_manyNow_164 : decode cX7_manyNow 164 = .ok (.iload 7, 2) := by decide +kernel
theorem dX7_manyNow_166 : decode cX7_manyNow 166 = .ok (.iconst 3, 1) := by decide +kernel
theorem dX7_manyNow_167 : decode cX7_manyNow 167 = .ok (.invokevirtual 178, 3) := by decide +kernel
theorem dX7_manyNow_170 : decode cX7_manyNow 170 = .ok (.if_icmp .le 7, 3) := by decide +kernel
theorem dX7_manyNow_173 : decode cX7_manyNow 173 = .ok (.iconst 1, 1) := by decide +kernel
theorem dX7_manyNow_174 : decode cX7_manyNow 174 = .ok (.goto 4, 3) := by decide +kernel
theorem dX7_manyNow_177 : decode cX7_manyNow 177 = .ok (.iconst 0, 1) := by decide +kernel
theorem dX7_manyNow_178 : decode cX7_manyNow 178 = .ok (.iadd, 1) := by decide +kernel
theorem dX7_manyNow_179 : decode cX7_manyNow 179 = .ok (.istore 6, 2) := by decide +kernel
theorem dX7_manyNow_181 : decode cX7_manyNow 181 = .ok (.iinc 7 1, 3) := by decide +kernel
theorem dX7_manyNow_184 : decode cX7_manyNow 184 = .ok (.goto (-71), 3) := by decide +kernel
theorem dX7_manyNow_187 : decode cX7_manyNow 187 = .ok (.bipush 17, 2) := by decide +kernel
theorem dX7_manyNow_189 : decode cX7_manyNow 189 = .ok (.newarray .int, 2) := by decide +kernel
theorem dX7_manyNow_191 : decode cX7_manyNow 191 = .ok (.dup, 1) := by decide +kernel
theorem dX7_manyNow_192 : decode cX7_manyNow 192 = .ok (.iconst 0, 1) := by decide +kernel
theorem dX7_manyNow_193 : decode cX7_manyNow 193 = .ok (.aload_n 0, 1) := by decide +kernel
theorem dX7_manyNow_194 : decode cX7_manyNow 194 = .ok (.getfield 93, 3) := by decide +kernel
theorem dX7_manyNow_197 : decode cX7_manyNow 197 = .ok (.iastore, 1) := by decide +kernel
theorem dX7_manyNow_198 : decode cX7_manyNow 198 = .ok (.dup, 1) := by decide +kernel
theorem dX7_manyNow_199 : decode cX7_manyNow 199 = .ok (.iconst 1, 1) := by decide +kernel
theorem dX7_manyNow_200 : decode cX7_manyNow 200 = .ok (.aload_n 0, 1) := by decide +kernel
theorem dX7_manyNow_201 : decode cX7_manyNow 201 = .ok (.getfield 17, 3) := by decide +kernel
theorem dX7_manyNow_204 : decode cX7_manyNow 204 = .ok (.invokevirtual 64, 3) := by decide +kernel
theorem dX7_manyNow_207 : decode cX7_manyNow 207 = .ok (.iastore, 1) := by decide +kernel
theorem dX7_manyNow_208 : decode cX7_manyNow 208 = .ok (.dup, 1) := by decide +kernel
theorem dX7_manyNow_209 : decode cX7_manyNow 209 = .ok (.iconst 2, 1) := by decide +kernel
theorem dX7_manyNow_210 : decode cX7_manyNow 210 = .ok (.aload_n 0, 1) := by decide +kernel
theorem dX7_manyNow_211 : decode cX7_manyNow 211 = .ok (.getfield 24, 3) := by decide +kernel
theorem dX7_manyNow_214 : decode cX7_manyNow 214 = .ok (.invokevirtual 64, 3) := by decide +kernel
theorem dX7_manyNow_217 : decode cX7_manyNow 217 = .ok (.iastore, 1) := by decide +kernel
theorem dX7_manyNow_218 : decode cX7_manyNow 218 = .ok (.dup, 1) := by decide +kernel
theorem dX7_manyNow_219 : decode cX7_manyNow 219 = .ok (.iconst 3, 1) := by decide +kernel
theorem dX7_manyNow_220 : decode cX7_manyNow 220 = .ok (.iload 4, 2) := by decide +kernel
theorem dX7_manyNow_222 : decode cX7_manyNow 222 = .ok (.iastore, 1) := by decide +kernel
theorem dX7_manyNow_223 : decode cX7_manyNow 223 = .ok (.dup, 1) := by decide +kernel
theorem dX7_manyNow_224 : decode cX7_manyNow 224 = .ok (.iconst 4, 1) := by decide +kernel
theorem dX7_manyNow_225 : decode cX7_manyNow 225 = .ok (.aload_n 2, 1) := by decide +kernel
theorem dX7_manyNow_226 : decode cX7_manyNow 226 = .ok (.iconst 0, 1) := by decide +kernel
theorem dX7_manyNow_227 : decode cX7_manyNow 227 = .ok (.iaload, 1) := by decide +kernel
theorem dX7_manyNow_228 : decode cX7_manyNow 228 = .ok (.iastore, 1) := by decide +kernel
theorem dX7_manyNow_229 : decode cX7_manyNow 229 = .ok (.dup, 1) := by decide +kernel
theorem dX7_manyNow_230 : decode cX7_manyNow 230 = .ok (.iconst 5, 1) := by decide +kernel
theorem dX7_manyNow_231 : decode cX7_manyNow 231 = .ok (.aload_n 2, 1) := by decide +kernel
theorem dX7_manyNow_232 : decode cX7_manyNow 232 = .ok (.iconst 1, 1) := by decide +kernel
theorem dX7_manyNow_233 : decode cX7_manyNow 233 = .ok (.iaload, 1) := by decide +kernel
theorem dX7_manyNow_234 : decode cX7_manyNow 234 = .ok (.iastore, 1) := by decide +kernel
theorem dX7_manyNow_235 : decode cX7_manyNow 235 = .ok (.dup, 1) := by decide +kernel
theorem dX7_manyNow_236 : decode cX7_manyNow 236 = .ok (.bipush 6, 2) := by decide +kernel
theorem dX7_manyNow_238 : decode cX7_manyNow 238 = .ok (.aload_n 2, 1) := by decide +kernel
theorem dX7_manyNow_239 : decode cX7_manyNow 239 = .ok (.iconst 2, 1) := by decide +kernel
theorem dX7_manyNow_240 : decode cX7_manyNow 240 = .ok (.iaload, 1) := by decide +kernel
theorem dX7_manyNow_241 : decode cX7_manyNow 241 = .ok (.iastore, 1) := by decide +kernel
theorem dX7_manyNow_242 : decode cX7_manyNow 242 = .ok (.dup, 1) := by decide +kernel
theorem dX7_manyNow_243 : decode cX7_manyNow 243 = .ok (.bipush 7, 2) := by decide +kernel
theorem dX7_manyNow_245 : decode cX7_manyNow 245 = .ok (.aload_n 2, 1) := by decide +kernel
theorem dX7_manyNow_246 : decode cX7_manyNow 246 = .ok (.iconst 3, 1) := by decide +kernel
theorem dX7_manyNow_247 : decode cX7_manyNow 247 = .ok (.iaload, 1) := by decide +kernel
theorem dX7_manyNow_248 : decode cX7_manyNow 248 = .ok (.iastore, 1) := by decide +kernel
theorem dX7_manyNow_249 : decode cX7_manyNow 249 = .ok (.dup, 1) := by decide +kernel
theorem dX7_manyNow_250 : decode cX7_manyNow 250 = .ok (.bipush 8, 2) := by decide +kernel
theorem dX7_manyNow_252 : decode cX7_manyNow 252 = .ok (.aload_n 2, 1) := by decide +kernel
theorem dX7_manyNow_253 : decode cX7_manyNow 253 = .ok (.iconst 4, 1) := by decide +kernel
theorem dX7_manyNow_254 : decode cX7_manyNow 254 = .ok (.iaload, 1) := by decide +kernel
theorem dX7_manyNow_255 : decode cX7_manyNow 255 = .ok (.iastore, 1) := by decide +kernel
theorem dX7_manyNow_256 : decode cX7_manyNow 256 = .ok (.dup, 1) := by decide +kernel
theorem dX7_manyNow_257 : decode cX7_manyNow 257 = .ok (.bipush 9, 2) := by decide +kernel
theorem dX7_manyNow_259 : decode cX7_manyNow 259 = .ok (.aload_n 0, 1) := by decide +kernel
theorem dX7_manyNow_260 : decode cX7_manyNow 260 = .ok (.getfield 103, 3) := by decide +kernel
theorem dX7_manyNow_263 : decode cX7_manyNow 263 = .ok (.iastore, 1) := by decide +kernel
theorem dX7_manyNow_264 : decode cX7_manyNow 264 = .ok (.dup, 1) := by decide +kernel
theorem dX7_manyNow_265 : decode cX7_manyNow 265 = .ok (.bipush 10, 2) := by decide +kernel
theorem dX7_manyNow_267 : decode cX7_manyNow 267 = .ok (.aload_n 0, 1) := by decide +kernel
theorem dX7_manyNow_268 : decode cX7_manyNow 268 = .ok (.getfield 109, 3) := by decide +kernel
theorem dX7_manyNow_271 : decode cX7_manyNow 271 = .ok (.iastore, 1) := by decide +kernel
theorem dX7_manyNow_272 : decode cX7_manyNow 272 = .ok (.dup, 1) := by decide +kernel
theorem dX7_manyNow_273 : decode cX7_manyNow 273 = .ok (.bipush 11, 2) := by decide +kernel
theorem dX7_manyNow_275 : decode cX7_manyNow 275 = .ok (.aload_n 0, 1) := by decide +kernel
theorem dX7_manyNow_276 : decode cX7_manyNow 276 = .ok (.getfield 106, 3) := by decide +kernel
theorem dX7_manyNow_279 : decode cX7_manyNow 279 = .ok (.iastore, 1) := by decide +kernel
theorem dX7_manyNow_280 : decode cX7_manyNow 280 = .ok (.dup, 1) := by decide +kernel
theorem dX7_manyNow_281 : decode cX7_manyNow 281 = .ok (.bipush 12, 2) := by decide +kernel
theorem dX7_manyNow_283 : decode cX7_manyNow 283 = .ok (.aload_n 0, 1) := by decide +kernel
theorem dX7_manyNow_284 : decode cX7_manyNow 284 = .ok (.getfield 168, 3) := by decide +kernel
theorem dX7_manyNow_287 : decode cX7_manyNow 287 = .ok (.iastore, 1) := by decide +kernel
theorem dX7_manyNow_288 : decode cX7_manyNow 288 = .ok (.dup, 1) := by decide +kernel
theorem dX7_manyNow_289 : decode cX7_manyNow 289 = .ok (.bipush 13, 2) := by decide +kernel
theorem dX7_manyNow_291 : decode cX7_manyNow 291 = .ok (.iload 5, 2) := by decide +kernel
theorem dX7_manyNow_293 : decode cX7_manyNow 293 = .ok (.iastore, 1) := by decide +kernel
theorem dX7_manyNow_294 : decode cX7_manyNow 294 = .ok (.dup, 1) := by decide +kernel
theorem dX7_manyNow_295 : decode cX7_manyNow 295 = .ok (.bipush 14, 2) := by decide +kernel
theorem dX7_manyNow_297 : decode cX7_manyNow 297 = .ok (.iload 6, 2) := by decide +kernel
theorem dX7_manyNow_299 : decode cX7_manyNow 299 = .ok (.iastore, 1) := by decide +kernel
theorem dX7_manyNow_300 : decode cX7_manyNow 300 = .ok (.dup, 1) := by decide +kernel
theorem dX7_manyNow_301 : decode cX7_manyNow 301 = .ok (.bipush 15, 2) := by decide +kernel
theorem dX7_manyNow_303 : decode cX7_manyNow 303 = .ok (.aload_n 0, 1) := by decide +kernel
theorem dX7_manyNow_304 : decode cX7_manyNow 304 = .ok (.getfield 27, 3) := by decide +kernel
theorem dX7_manyNow_307 : decode cX7_manyNow 307 = .ok (.iastore, 1) := by decide +kernel
theorem dX7_manyNow_308 : decode cX7_manyNow 308 = .ok (.dup, 1) := by decide +kernel
theorem dX7_manyNow_309 : decode cX7_manyNow 309 = .ok (.bipush 16, 2) := by decide +kernel
theorem dX7_manyNow_311 : decode cX7_manyNow 311 = .ok (.iload_n 3, 1) := by decide +kernel
theorem dX7_manyNow_312 : decode cX7_manyNow 312 = .ok (.iastore, 1) := by decide +kernel
theorem dX7_manyNow_313 : decode cX7_manyNow 313 = .ok (.astore 7, 2) := by decide +kernel
theorem dX7_manyNow_315 : decode cX7_manyNow 315 = .ok (.aload 7, 2) := by decide +kernel
theorem dX7_manyNow_317 : decode cX7_manyNow 317 = .ok (.iload_n 1, 1) := by decide +kernel
theorem dX7_manyNow_318 : decode cX7_manyNow 318 = .ok (.iaload, 1) := by decide +kernel
theorem dX7_manyNow_319 : decode cX7_manyNow 319 = .ok (.ireturn, 1) := by decide +kernel
theorem dX7_many_0 : decode cX7_many 0 = .ok (.aload_n 0, 1) := by decide +kernel
theorem dX7_many_1 : decode cX7_many 1 = .ok (.iconst 0, 1) := by decide +kernel
theorem dX7_many_2 : decode cX7_many 2 = .ok (.putfield 31, 3) := by decide +kernel
theorem dX7_many_5 : decode cX7_many 5 = .ok (.iload_n 1, 1) := by decide +kernel
theorem dX7_many_6 : decode cX7_many 6 = .ok (.iconst 0, 1) := by decide +kernel
theorem dX7_many_7 : decode cX7_many 7 = .ok (.bipush 16, 2) := by decide +kernel
theorem dX7_many_9 : decode cX7_many 9 = .ok (.invokestatic 68, 3) := by decide +kernel
theorem dX7_many_12 : decode cX7_many 12 = .ok (.ifCond .eq 11, 3) := by decide +kernel
theorem dX7_many_15 : decode cX7_many 15 = .ok (.aload_n 0, 1) := by decide +kernel
theorem dX7_many_16 : decode cX7_many 16 = .ok (.iload_n 1, 1) := by decide +kernel
theorem dX7_many_17 : decode cX7_many 17 = .ok (.invokevirtual 191, 3) := by decide +kernel
theorem dX7_many_20 : decode cX7_many 20 = .ok (.goto 8, 3) := by decide +kernel
theorem dX7_many_23 : decode cX7_many 23 = .ok (.aload_n 0, 1) := by decide +kernel
theorem dX7_many_24 : decode cX7_many 24 = .ok (.iconst 1, 1) := by decide +kernel
theorem dX7_many_25 : decode cX7_many 25 = .ok (.invokevirtual 76, 3) := by decide +kernel
theorem dX7_many_28 : decode cX7_many 28 = .ok (.ireturn, 1) := by decide +kernel
theorem dX7_meanWear_0 : decode cX7_meanWear 0 = .ok (.aload_n 0, 1) := by decide +kernel
theorem dX7_meanWear_1 : decode cX7_meanWear 1 = .ok (.iload_n 1, 1) := by decide +kernel
theorem dX7_meanWear_2 : decode cX7_meanWear 2 = .ok (.iconst 0, 1) := by decide +kernel
theorem dX7_meanWear_3 : decode cX7_meanWear 3 = .ok (.iconst 1, 1) := by decide +kernel
theorem dX7_meanWear_4 : decode cX7_meanWear 4 = .ok (.invokestatic 68, 3) := by decide +kernel
theorem dX7_meanWear_7 : decode cX7_meanWear 7 = .ok (.ifCond .eq 7, 3) := by decide +kernel
theorem dX7_meanWear_10 : decode cX7_meanWear 10 = .ok (.iconst 0, 1) := by decide +kernel
theorem dX7_meanWear_11 : decode cX7_meanWear 11 = .ok (.goto 4, 3) := by decide +kernel
theorem dX7_meanWear_14 : decode cX7_meanWear 14 = .ok (.iconst 1, 1) := by decide +kernel
theorem dX7_meanWear_15 : decode cX7_meanWear 15 = .ok (.putfield 31, 3) := by decide +kernel
theorem dX7_meanWear_18 : decode cX7_meanWear 18 = .ok (.aload_n 0, 1) := by decide +kernel
theorem dX7_meanWear_19 : decode cX7_meanWear 19 = .ok (.getfield 31, 3) := by decide +kernel
theorem dX7_meanWear_22 : decode cX7_meanWear 22 = .ok (.ifCond .le 5, 3) := by decide +kernel
theorem dX7_meanWear_25 : decode cX7_meanWear 25 = .ok (.dconst 0, 1) := by decide +kernel
theorem dX7_meanWear_26 : decode cX7_meanWear 26 = .ok (.dreturn, 1) := by decide +kernel
theorem dX7_meanWear_27 : decode cX7_meanWear 27 = .ok (.iconst 0, 1) := by decide +kernel
theorem dX7_meanWear_28 : decode cX7_meanWear 28 = .ok (.istore_n 2, 1) := by decide +kernel
theorem dX7_meanWear_29 : decode cX7_meanWear 29 = .ok (.iconst 0, 1) := by decide +kernel
theorem dX7_meanWear_30 : decode cX7_meanWear 30 = .ok (.istore_n 3, 1) := by decide +kernel
theorem dX7_meanWear_31 : decode cX7_meanWear 31 = .ok (.iload_n 3, 1) := by decide +kernel
theorem dX7_meanWear_32 : decode cX7_meanWear 32 = .ok (.bipush 10, 2) := by decide +kernel
theorem dX7_meanWear_34 : decode cX7_meanWear 34 = .ok (.if_icmp .ge 25, 3) := by decide +kernel
theorem dX7_meanWear_37 : decode cX7_meanWear 37 = .ok (.iload_n 2, 1) := by decide +kernel
theorem dX7_meanWear_38 : decode cX7_meanWear 38 = .ok (.aload_n 0, 1) := by decide +kernel
theorem dX7_meanWear_39 : decode cX7_meanWear 39 = .ok (.getfield 11, 3) := by decide +kernel
theorem dX7_meanWear_42 : decode cX7_meanWear 42 = .ok (.bipush 10, 2) := by decide +kernel
theorem dX7_meanWear_44 : decode cX7_meanWear 44 = .ok (.iload_n 1, 1) := by decide +kernel
theorem dX7_meanWear_45 : decode cX7_meanWear 45 = .ok (.imul, 1) := by decide +kernel
theorem dX7_meanWear_46 : decode cX7_meanWear 46 = .ok (.iload_n 3, 1) := by decide +kernel
theorem dX7_meanWear_47 : decode cX7_meanWear 47 = .ok (.iadd, 1) := by decide +kernel
theorem dX7_meanWear_48 : decode cX7_meanWear 48 = .ok (.aaload, 1) := by decide +kernel
theorem dX7_meanWear_49 : decode cX7_meanWear 49 = .ok (.iconst 0, 1) := by decide +kernel
theorem dX7_meanWear_50 : decode cX7_meanWear 50 = .ok (.iaload, 1) := by decide +kernel
theorem dX7_meanWear_51 : decode cX7_meanWear 51 = .ok (.iadd, 1) := by decide +kernel
theorem dX7_meanWear_52 : decode cX7_meanWear 52 = .ok (.istore_n 2, 1) := by decide +kernel
theorem dX7_meanWear_53 : decode cX7_meanWear 53 = .ok (.iinc 3 1, 3) := by decide +kernel
theorem dX7_meanWear_56 : decode cX7_meanWear 56 = .ok (.goto (-25), 3) := by decide +kernel
theorem dX7_meanWear_59 : decode cX7_meanWear 59 = .ok (.iload_n 2, 1) := by decide +kernel
theorem dX7_meanWear_60 : decode cX7_meanWear 60 = .ok (.i2d, 1) := by decide +kernel
theorem dX7_meanWear_61 : decode cX7_meanWear 61 = .ok (.ldc2_w 194, 3) := by decide +kernel
theorem dX7_meanWear_64 : decode cX7_meanWear 64 = .ok (.ddiv, 1) := by decide +kernel
theorem dX7_meanWear_65 : decode cX7_meanWear 65 = .ok (.dreturn, 1) := by decide +kernel
theorem dX7_seeNow_0 : decode cX7_seeNow 0 = .ok (.iconst 0, 1) := by decide +kernel
theorem dX7_seeNow_1 : decode cX7_seeNow 1 = .ok (.istore_n 2, 1) := by decide +kernel
theorem dX7_seeNow_2 : decode cX7_seeNow 2 = .ok (.iload_n 2, 1) := by decide +kernel
theorem dX7_seeNow_3 : decode cX7_seeNow 3 = .ok (.aload_n 0, 1) := by decide +kernel
theorem dX7_seeNow_4 : decode cX7_seeNow 4 = .ok (.getfield 24, 3) := by decide +kernel
theorem dX7_seeNow_7 : decode cX7_seeNow 7 = .ok (.invokevirtual 64, 3) := by decide +kernel
theorem dX7_seeNow_10 : decode cX7_seeNow 10 = .ok (.if_icmp .ge 67, 3) := by decide +kernel
theorem dX7_seeNow_13 : decode cX7_seeNow 13 = .ok (.aload_n 0, 1) := by decide +kernel
theorem dX7_seeNow_14 : decode cX7_seeNow 14 = .ok (.getfield 24, 3) := by decide +kernel
theorem dX7_seeNow_17 : decode cX7_seeNow 17 = .ok (.iload_n 2, 1) := by decide +kernel
theorem dX7_seeNow_18 : decode cX7_seeNow 18 = .ok (.invokevirtual 52, 3) := by decide +kernel
theorem dX7_seeNow_21 : decode cX7_seeNow 21 = .ok (.checkcast 56, 3) := by decide +kernel
theorem dX7_seeNow_24 : decode cX7_seeNow 24 = .ok (.astore_n 3, 1) := by decide +kernel
theorem dX7_seeNow_25 : decode cX7_seeNow 25 = .ok (.iload_n 1, 1) := by decide +kernel
theorem dX7_seeNow_26 : decode cX7_seeNow 26 = .ok (.bipush 10, 2) := by decide +kernel
theorem dX7_seeNow_28 : decode cX7_seeNow 28 = .ok (.irem, 1) := by decide +kernel
theorem dX7_seeNow_29 : decode cX7_seeNow 29 = .ok (.aload_n 3, 1) := by decide +kernel
theorem dX7_seeNow_30 : decode cX7_seeNow 30 = .ok (.iconst 3, 1) := by decide +kernel
theorem dX7_seeNow_31 : decode cX7_seeNow 31 = .ok (.iaload, 1) := by decide +kernel
theorem dX7_seeNow_32 : decode cX7_seeNow 32 = .ok (.isub, 1) := by decide +kernel
theorem dX7_seeNow_33 : decode cX7_seeNow 33 = .ok (.istore 4, 2) := by decide +kernel
theorem dX7_seeNow_35 : decode cX7_seeNow 35 = .ok (.aload_n 3, 1) := by decide +kernel
theorem dX7_seeNow_36 : decode cX7_seeNow 36 = .ok (.iconst 0, 1) := by decide +kernel
theorem dX7_seeNow_37 : decode cX7_seeNow 37 = .ok (.iaload, 1) := by decide +kernel
theorem dX7_seeNow_38 : decode cX7_seeNow 38 = .ok (.iload_n 1, 1) := by decide +kernel
theorem dX7_seeNow_39 : decode cX7_seeNow 39 = .ok (.bipush 10, 2) := by decide +kernel
theorem dX7_seeNow_41 : decode cX7_seeNow 41 = .ok (.idiv, 1) := by decide +kernel
theorem dX7_seeNow_42 : decode cX7_seeNow 42 = .ok (.if_icmp .ne 29, 3) := by decide +kernel
theorem dX7_seeNow_45 : decode cX7_seeNow 45 = .ok (.iload 4, 2) := by decide +kernel
theorem dX7_seeNow_47 : decode cX7_seeNow 47 = .ok (.iconst 0, 1) := by decide +kernel
theorem dX7_seeNow_48 : decode cX7_seeNow 48 = .ok (.bipush 9, 2) := by decide +kernel
theorem dX7_seeNow_50 : decode cX7_seeNow 50 = .ok (.invokestatic 68, 3) := by decide +kernel
theorem dX7_seeNow_53 : decode cX7_seeNow 53 = .ok (.ifCond .eq 18, 3) := by decide +kernel
theorem dX7_seeNow_56 : decode cX7_seeNow 56 = .ok (.aload_n 3, 1) := by decide +kernel
theorem dX7_seeNow_57 : decode cX7_seeNow 57 = .ok (.iconst 5, 1) := by decide +kernel
theorem dX7_seeNow_58 : decode cX7_seeNow 58 = .ok (.iconst 4, 1) := by decide +kernel
theorem dX7_seeNow_59 : decode cX7_seeNow 59 = .ok (.iload 4, 2) := by decide +kernel
theorem dX7_seeNow_61 : decode cX7_seeNow 61 = .ok (.imul, 1) := by decide +kernel
theorem dX7_seeNow_62 : decode cX7_seeNow 62 = .ok (.iadd, 1) := by decide +kernel
theorem dX7_seeNow_63 : decode cX7_seeNow 63 = .ok (.iconst 2, 1) := by decide +kernel
theorem dX7_seeNow_64 : decode cX7_seeNow 64 = .ok (.iadd, 1) := by decide +kernel
theorem dX7_seeNow_65 : decode cX7_seeNow 65 = .ok (.iaload, 1) := by decide +kernel
theorem dX7_seeNow_66 : decode cX7_seeNow 66 = .ok (.ifCond .le 5, 3) := by decide +kernel
theorem dX7_seeNow_69 : decode cX7_seeNow 69 = .ok (.iload_n 2, 1) := by decide +kernel
theorem dX7_seeNow_70 : decode cX7_seeNow 70 = .ok (.ireturn, 1) := by decide +kernel
theorem dX7_seeNow_71 : decode cX7_seeNow 71 = .ok (.iinc 2 1, 3) := by decide +kernel
theorem dX7_seeNow_74 : decode cX7_seeNow 74 = .ok (.goto (-72), 3) := by decide +kernel
theorem dX7_seeNow_77 : decode cX7_seeNow 77 = .ok (.iconst (-1), 1) := by decide +kernel
theorem dX7_seeNow_78 : decode cX7_seeNow 78 = .ok (.ireturn, 1) := by decide +kernel
theorem dX7_couldSee_0 : decode cX7_couldSee 0 = .ok (.aload_n 0, 1) := by decide +kernel
theorem dX7_couldSee_1 : decode cX7_couldSee 1 = .ok (.iconst 0, 1) := by decide +kernel
theorem dX7_couldSee_2 : decode cX7_couldSee 2 = .ok (.putfield 31, 3) := by decide +kernel
theorem dX7_couldSee_5 : decode cX7_couldSee 5 = .ok (.iload_n 1, 1) := by decide +kernel
theorem dX7_couldSee_6 : decode cX7_couldSee 6 = .ok (.invokestatic 72, 3) := by decide +kernel
theorem dX7_couldSee_9 : decode cX7_couldSee 9 = .ok (.ifCond .eq 11, 3) := by decide +kernel
theorem dX7_couldSee_12 : decode cX7_couldSee 12 = .ok (.aload_n 0, 1) := by decide +kernel
theorem dX7_couldSee_13 : decode cX7_couldSee 13 = .ok (.iload_n 1, 1) := by decide +kernel
theorem dX7_couldSee_14 : decode cX7_couldSee 14 = .ok (.invokevirtual 196, 3) := by decide +kernel
theorem dX7_couldSee_17 : decode cX7_couldSee 17 = .ok (.goto 8, 3) := by decide +kernel
theorem dX7_couldSee_20 : decode cX7_couldSee 20 = .ok (.aload_n 0, 1) := by decide +kernel
theorem dX7_couldSee_21 : decode cX7_couldSee 21 = .ok (.iconst 1, 1) := by decide +kernel
theorem dX7_couldSee_22 : decode cX7_couldSee 22 = .ok (.invokevirtual 76, 3) := by decide +kernel
theorem dX7_couldSee_25 : decode cX7_couldSee 25 = .ok (.ireturn, 1) := by decide +kernel
theorem dX7_riskNow_0 : decode cX7_riskNow 0 = .ok (.aload_n 0, 1) := by decide +kernel
theorem dX7_riskNow_1 : decode cX7_riskNow 1 = .ok (.getfield 11, 3) := by decide +kernel
theorem dX7_riskNow_4 : decode cX7_riskNow 4 = .ok (.iload_n 1, 1) := by decide +kernel
theorem dX7_riskNow_5 : decode cX7_riskNow 5 = .ok (.aaload, 1) := by decide +kernel
theorem dX7_riskNow_6 : decode cX7_riskNow 6 = .ok (.invokevirtual 199, 3) := by decide +kernel
theorem dX7_riskNow_9 : decode cX7_riskNow 9 = .ok (.checkcast 56, 3) := by decide +kernel
theorem dX7_riskNow_12 : decode cX7_riskNow 12 = .ok (.astore_n 3, 1) := by decide +kernel
theorem dX7_riskNow_13 : decode cX7_riskNow 13 = .ok (.iconst 0, 1) := by decide +kernel
theorem dX7_riskNow_14 : decode cX7_riskNow 14 = .ok (.istore 4, 2) := by decide +kernel
theorem dX7_riskNow_16 : decode cX7_riskNow 16 = .ok (.iload 4, 2) := by decide +kernel
theorem dX7_riskNow_18 : decode cX7_riskNow 18 = .ok (.sipush 200, 3) := by decide +kernel
theorem dX7_riskNow_21 : decode cX7_riskNow 21 = .ok (.if_icmp .gt 32, 3) := by decide +kernel
theorem dX7_riskNow_24 : decode cX7_riskNow 24 = .ok (.aload_n 3, 1) := by decide +kernel
theorem dX7_riskNow_25 : decode cX7_riskNow 25 = .ok (.bipush 6, 2) := by decide +kernel
theorem dX7_riskNow_27 : decode cX7_riskNow 27 = .ok (.iaload, 1) := by decide +kernel
theorem dX7_riskNow_28 : decode cX7_riskNow 28 = .ok (.aload_n 3, 1) := by decide +kernel
theorem dX7_riskNow_29 : decode cX7_riskNow 29 = .ok (.aload_n 0, 1) := by decide +kernel
theorem dX7_riskNow_30 : decode cX7_riskNow 30 = .ok (.getfield 27, 3) := by decide +kernel
theorem dX7_riskNow_33 : decode cX7_riskNow 33 = .ok (.invokestatic 44, 3) := by decide +kernel
theorem dX7_riskNow_36 : decode cX7_riskNow 36 = .ok (.if_icmp .le 6, 3) := by decide +kernel
theorem dX7_riskNow_39 : decode cX7_riskNow 39 = .ok (.iload 4, 2) := by decide +kernel
theorem dX7_riskNow_41 : decode cX7_riskNow 41 = .ok (.ireturn, 1) := by decide +kernel
theorem dX7_riskNow_42 : decode cX7_riskNow 42 = .ok (.aload_n 3, 1) := by decide +kernel
theorem dX7_riskNow_43 : decode cX7_riskNow 43 = .ok (.iload_n 2, 1) := by decide +kernel
theorem dX7_riskNow_44 : decode cX7_riskNow 44 = .ok (.invokestatic 99, 3) := by decide +kernel
theorem dX7_riskNow_47 : decode cX7_riskNow 47 = .ok (.iinc 4 1, 3) := by decide +kernel
theorem dX7_riskNow_50 : decode cX7_riskNow 50 = .ok (.goto (-34), 3) := by decide +kernel
theorem dX7_riskNow_53 : decode cX7_riskNow 53 = .ok (.iconst (-1), 1) := by decide +kernel
theorem dX7_riskNow_54 : decode cX7_riskNow 54 = .ok (.ireturn, 1) := by decide +kernel
theorem dX7_firstRisk_0 : decode cX7_firstRisk 0 = .ok (.aload_n 0, 1) := by decide +kernel
theorem dX7_firstRisk_1 : decode cX7_firstRisk 1 = .ok (.iconst 0, 1) := by decide +kernel
theorem dX7_firstRisk_2 : decode cX7_firstRisk 2 = .ok (.putfield 31, 3) := by decide +kernel
theorem dX7_firstRisk_5 : decode cX7_firstRisk 5 = .ok (.iload_n 1, 1) := by decide +kernel
theorem dX7_firstRisk_6 : decode cX7_firstRisk 6 = .ok (.invokestatic 72, 3) := by decide +kernel
theorem dX7_firstRisk_9 : decode cX7_firstRisk 9 = .ok (.ifCond .ne 9, 3) := by decide +kernel
theorem dX7_firstRisk_12 : decode cX7_firstRisk 12 = .ok (.aload_n 0, 1) := by decide +kernel
theorem dX7_firstRisk_13 : decode cX7_firstRisk 13 = .ok (.iconst 1, 1) := by decide +kernel
theorem dX7_firstRisk_14 : decode cX7_firstRisk 14 = .ok (.invokevirtual 76, 3) := by decide +kernel
theorem dX7_firstRisk_17 : decode cX7_firstRisk 17 = .ok (.ireturn, 1) := by decide +kernel
theorem dX7_firstRisk_18 : decode cX7_firstRisk 18 = .ok (.iload_n 2, 1) := by decide +kernel
theorem dX7_firstRisk_19 : decode cX7_firstRisk 19 = .ok (.invokestatic 112, 3) := by decide +kernel
theorem dX7_firstRisk_22 : decode cX7_firstRisk 22 = .ok (.ifCond .eq 12, 3) := by decide +kernel
theorem dX7_firstRisk_25 : decode cX7_firstRisk 25 = .ok (.aload_n 0, 1) := by decide +kernel
theorem dX7_firstRisk_26 : decode cX7_firstRisk 26 = .ok (.iload_n 1, 1) := by decide +kernel
theorem dX7_firstRisk_27 : decode cX7_firstRisk 27 = .ok (.iload_n 2, 1) := by decide +kernel
theorem dX7_firstRisk_28 : decode cX7_firstRisk 28 = .ok (.invokevirtual 202, 3) := by decide +kernel
theorem dX7_firstRisk_31 : decode cX7_firstRisk 31 = .ok (.goto 8, 3) := by decide +kernel
theorem dX7_firstRisk_34 : decode cX7_firstRisk 34 = .ok (.aload_n 0, 1) := by decide +kernel
theorem dX7_firstRisk_35 : decode cX7_firstRisk 35 = .ok (.iconst 2, 1) := by decide +kernel
theorem dX7_firstRisk_36 : decode cX7_firstRisk 36 = .ok (.invokevirtual 76, 3) := by decide +kernel
theorem dX7_firstRisk_39 : decode cX7_firstRisk 39 = .ok (.ireturn, 1) := by decide +kernel
theorem dX7_costOf_0 : decode cX7_costOf 0 = .ok (.aload_n 0, 1) := by decide +kernel
theorem dX7_costOf_1 : decode cX7_costOf 1 = .ok (.getfield 11, 3) := by decide +kernel
theorem dX7_costOf_4 : decode cX7_costOf 4 = .ok (.iload_n 1, 1) := by decide +kernel
theorem dX7_costOf_5 : decode cX7_costOf 5 = .ok (.aaload, 1) := by decide +kernel
theorem dX7_costOf_6 : decode cX7_costOf 6 = .ok (.invokevirtual 199, 3) := by decide +kernel
theorem dX7_costOf_9 : decode cX7_costOf 9 = .ok (.checkcast 56, 3) := by decide +kernel
theorem dX7_costOf_12 : decode cX7_costOf 12 = .ok (.astore 5, 2) := by decide +kernel
theorem dX7_costOf_14 : decode cX7_costOf 14 = .ok (.iload_n 2, 1) := by decide +kernel
theorem dX7_costOf_15 : decode cX7_costOf 15 = .ok (.iconst 2, 1) := by decide +kernel
theorem dX7_costOf_16 : decode cX7_costOf 16 = .ok (.if_icmp .le 7, 3) := by decide +kernel
theorem dX7_costOf_19 : decode cX7_costOf 19 = .ok (.iconst 0, 1) := by decide +kernel
theorem dX7_costOf_20 : decode cX7_costOf 20 = .ok (.goto 25, 3) := by decide +kernel
theorem dX7_costOf_23 : decode cX7_costOf 23 = .ok (.bipush 30, 2) := by decide +kernel
theorem dX7_costOf_25 : decode cX7_costOf 25 = .ok (.aload_n 0, 1) := by decide +kernel
theorem dX7_costOf_26 : decode cX7_costOf 26 = .ok (.iload_n 2, 1) := by decide +kernel
theorem dX7_costOf_27 : decode cX7_costOf 27 = .ok (.iload_n 1, 1) := by decide +kernel
theorem dX7_costOf_28 : decode cX7_costOf 28 = .ok (.invokevirtual 142, 3) := by decide +kernel
theorem dX7_costOf_31 : decode cX7_costOf 31 = .ok (.imul, 1) := by decide +kernel
theorem dX7_costOf_32 : decode cX7_costOf 32 = .ok (.iload_n 2, 1) := by decide +kernel
theorem dX7_costOf_33 : decode cX7_costOf 33 = .ok (.iconst 2, 1) := by decide +kernel
theorem dX7_costOf_34 : decode cX7_costOf 34 = .ok (.if_icmp .ne 9, 3) := by decide +kernel
theorem dX7_costOf_37 : decode cX7_costOf 37 = .ok (.sipush 300, 3) := by decide +kernel
theorem dX7_costOf_40 : decode cX7_costOf 40 = .ok (.goto 4, 3) := by decide +kernel
theorem dX7_costOf_43 : decode cX7_costOf 43 = .ok (.iconst 0, 1) := by decide +kernel
theorem dX7_costOf_44 : decode cX7_costOf 44 = .ok (.iadd, 1) := by decide +kernel
theorem dX7_costOf_45 : decode cX7_costOf 45 = .ok (.istore 6, 2) := by decide +kernel
theorem dX7_costOf_47 : decode cX7_costOf 47 = .ok (.iload_n 2, 1) := by decide +kernel
theorem dX7_costOf_48 : decode cX7_costOf 48 = .ok (.iconst 2, 1) := by decide +kernel
theorem dX7_costOf_49 : decode cX7_costOf 49 = .ok (.if_icmp .gt 13, 3) := by decide +kernel
theorem dX7_costOf_52 : decode cX7_costOf 52 = .ok (.aload 5, 2) := by decide +kernel
theorem dX7_costOf_54 : decode cX7_costOf 54 = .ok (.iload_n 2, 1) := by decide +kernel
theorem dX7_costOf_55 : decode cX7_costOf 55 = .ok (.aload_n 0, 1) := by decide +kernel
theorem dX7_costOf_56 : decode cX7_costOf 56 = .ok (.getfield 27, 3) := by decide +kernel
theorem dX7_costOf_59 : decode cX7_costOf 59 = .ok (.invokestatic 161, 3) := by decide +kernel
theorem dX7_costOf_62 : decode cX7_costOf 62 = .ok (.iconst 0, 1) := by decide +kernel
theorem dX7_costOf_63 : decode cX7_costOf 63 = .ok (.istore 7, 2) := by decide +kernel
theorem dX7_costOf_65 : decode cX7_costOf 65 = .ok (.iload 7, 2) := by decide +kernel
theorem dX7_costOf_67 : decode cX7_costOf 67 = .ok (.iload 4, 2) := by decide +kernel
theorem dX7_costOf_69 : decode cX7_costOf 69 = .ok (.if_icmp .ge 38, 3) := by decide +kernel
theorem dX7_costOf_72 : decode cX7_costOf 72 = .ok (.aload 5, 2) := by decide +kernel
theorem dX7_costOf_74 : decode cX7_costOf 74 = .ok (.iload_n 3, 1) := by decide +kernel
theorem dX7_costOf_75 : decode cX7_costOf 75 = .ok (.invokestatic 99, 3) := by decide +kernel
theorem dX7_costOf_78 : decode cX7_costOf 78 = .ok (.iload 6, 2) := by decide +kernel
theorem dX7_costOf_80 : decode cX7_costOf 80 = .ok (.iload_n 3, 1) := by decide +kernel
theorem dX7_costOf_81 : decode cX7_costOf 81 = .ok (.sipush 160, 3) := by decide +kernel
theorem dX7_costOf_84 : decode cX7_costOf 84 = .ok (.aload 5, 2) := by decide +kernel
theorem dX7_costOf_86 : decode cX7_costOf 86 = .ok (.aload_n 0, 1) := by decide +kernel
theorem dX7_costOf_87 : decode cX7_costOf 87 = .ok (.getfield 27, 3) := by decide +kernel
theorem dX7_costOf_90 : decode cX7_costOf 90 = .ok (.invokestatic 44, 3) := by decide +kernel
theorem dX7_costOf_93 : decode cX7_costOf 93 = .ok (.isub, 1) := by decide +kernel
theorem dX7_costOf_94 : decode cX7_costOf 94 = .ok (.imul, 1) := by decide +kernel
theorem dX7_costOf_95 : decode cX7_costOf 95 = .ok (.bipush 80, 2) := by decide +kernel
theorem dX7_costOf_97 : decode cX7_costOf 97 = .ok (.idiv, 1) := by decide +kernel
theorem dX7_costOf_98 : decode cX7_costOf 98 = .ok (.iadd, 1) := by decide +kernel
theorem dX7_costOf_99 : decode cX7_costOf 99 = .ok (.istore 6, 2) := by decide +kernel
theorem dX7_costOf_101 : decode cX7_costOf 101 = .ok (.iinc 7 1, 3) := by decide +kernel
theorem dX7_costOf_104 : decode cX7_costOf 104 = .ok (.goto (-39), 3) := by decide +kernel
theorem dX7_costOf_107 : decode cX7_costOf 107 = .ok (.iload 6, 2) := by decide +kernel
theorem dX7_costOf_109 : decode cX7_costOf 109 = .ok (.ireturn, 1) := by decide +kernel
theorem dX7_bestNow_0 : decode cX7_bestNow 0 = .ok (.iconst 0, 1) := by decide +kernel
theorem dX7_bestNow_1 : decode cX7_bestNow 1 = .ok (.istore 4, 2) := by decide +kernel
theorem dX7_bestNow_3 : decode cX7_bestNow 3 = .ok (.aload_n 0, 1) := by decide +kernel
theorem dX7_bestNow_4 : decode cX7_bestNow 4 = .ok (.iload_n 1, 1) := by decide +kernel
theorem dX7_bestNow_5 : decode cX7_bestNow 5 = .ok (.iconst 0, 1) := by decide +kernel
theorem dX7_bestNow_6 : decode cX7_bestNow 6 = .ok (.iload_n 2, 1) := by decide +kernel
theorem dX7_bestNow_7 : decode cX7_bestNow 7 = .ok (.iload_n 3, 1) := by decide +kernel
theorem dX7_bestNow_8 : decode cX7_bestNow 8 = .ok (.invokevirtual 205, 3) := by decide +kernel
theorem dX7_bestNow_11 : decode cX7_bestNow 11 = .ok (.istore 5, 2) := by decide +kernel
theorem dX7_bestNow_13 : decode cX7_bestNow 13 = .ok (.iconst 1, 1) := by decide +kernel
theorem dX7_bestNow_14 : decode cX7_bestNow 14 = .ok (.istore 6, 2) := by decide +kernel
theorem dX7_bestNow_16 : decode cX7_bestNow 16 = .ok (.iload 6, 2) := by decide +kernel
theorem dX7_bestNow_18 : decode cX7_bestNow 18 = .ok (.iconst 4, 1) := by decide +kernel
theorem dX7_bestNow_19 : decode cX7_bestNow 19 = .ok (.if_icmp .ge 38, 3) := by decide +kernel
theorem dX7_bestNow_22 : decode cX7_bestNow 22 = .ok (.aload_n 0, 1) := by decide +kernel
theorem dX7_bestNow_23 : decode cX7_bestNow 23 = .ok (.iload_n 1, 1) := by decide +kernel
theorem dX7_bestNow_24 : decode cX7_bestNow 24 = .ok (.iload 6, 2) := by decide +kernel
theorem dX7_bestNow_26 : decode cX7_bestNow 26 = .ok (.iload_n 2, 1) := by decide +kernel
theorem dX7_bestNow_27 : decode cX7_bestNow 27 = .ok (.iload_n 3, 1) := by decide +kernel
theorem dX7_bestNow_28 : decode cX7_bestNow 28 = .ok (.invokevirtual 205, 3) := by decide +kernel
theorem dX7_bestNow_31 : decode cX7_bestNow 31 = .ok (.istore 7, 2) := by decide +kernel
theorem dX7_bestNow_33 : decode cX7_bestNow 33 = .ok (.iload 7, 2) := by decide +kernel
theorem dX7_bestNow_35 : decode cX7_bestNow 35 = .ok (.iload 5, 2) := by decide +kernel
theorem dX7_bestNow_37 : decode cX7_bestNow 37 = .ok (.if_icmp .lt 6, 3) := by decide +kernel
theorem dX7_bestNow_40 : decode cX7_bestNow 40 = .ok (.goto 11, 3) := by decide +kernel
theorem dX7_bestNow_43 : decode cX7_bestNow 43 = .ok (.iload 6, 2) := by decide +kernel
theorem dX7_bestNow_45 : decode cX7_bestNow 45 = .ok (.istore 4, 2) := by decide +kernel
theorem dX7_bestNow_47 : decode cX7_bestNow 47 = .ok (.iload 7, 2) := by decide +kernel
theorem dX7_bestNow_49 : decode cX7_bestNow 49 = .ok (.istore 5, 2) := by decide +kernel
theorem dX7_bestNow_51 : decode cX7_bestNow 51 = .ok (.iinc 6 1, 3) := by decide +kernel
theorem dX7_bestNow_54 : decode cX7_bestNow 54 = .ok (.goto (-38), 3) := by decide +kernel
theorem dX7_bestNow_57 : decode cX7_bestNow 57 = .ok (.iload 4, 2) := by decide +kernel
theorem dX7_bestNow_59 : decode cX7_bestNow 59 = .ok (.ireturn, 1) := by decide +kernel
theorem dX7_bestWork_0 : decode cX7_bestWork 0 = .ok (.aload_n 0, 1) := by decide +kernel
theorem dX7_bestWork_1 : decode cX7_bestWork 1 = .ok (.iconst 0, 1) := by decide +kernel
theorem dX7_bestWork_2 : decode cX7_bestWork 2 = .ok (.putfield 31, 3) := by decide +kernel
theorem dX7_bestWork_5 : decode cX7_bestWork 5 = .ok (.iload_n 1, 1) := by decide +kernel
theorem dX7_bestWork_6 : decode cX7_bestWork 6 = .ok (.invokestatic 72, 3) := by decide +kernel
theorem dX7_bestWork_9 : decode cX7_bestWork 9 = .ok (.ifCond .ne 9, 3) := by decide +kernel
theorem dX7_bestWork_12 : decode cX7_bestWork 12 = .ok (.aload_n 0, 1) := by decide +kernel
theorem dX7_bestWork_13 : decode cX7_bestWork 13 = .ok (.iconst 1, 1) := by decide +kernel
theorem dX7_bestWork_14 : decode cX7_bestWork 14 = .ok (.invokevirtual 76, 3) := by decide +kernel
theorem dX7_bestWork_17 : decode cX7_bestWork 17 = .ok (.ireturn, 1) := by decide +kernel
theorem dX7_bestWork_18 : decode cX7_bestWork 18 = .ok (.iload_n 2, 1) := by decide +kernel
theorem dX7_bestWork_19 : decode cX7_bestWork 19 = .ok (.invokestatic 112, 3) := by decide +kernel
theorem dX7_bestWork_22 : decode cX7_bestWork 22 = .ok (.ifCond .eq 24, 3) := by decide +kernel
theorem dX7_bestWork_25 : decode cX7_bestWork 25 = .ok (.iload_n 3, 1) := by decide +kernel
theorem dX7_bestWork_26 : decode cX7_bestWork 26 = .ok (.iconst 1, 1) := by decide +kernel
theorem dX7_bestWork_27 : decode cX7_bestWork 27 = .ok (.sipush 200, 3) := by decide +kernel
theorem dX7_bestWork_30 : decode cX7_bestWork 30 = .ok (.invokestatic 68, 3) := by decide +kernel
theorem dX7_bestWork_33 : decode cX7_bestWork 33 = .ok (.ifCond .eq 13, 3) := by decide +kernel
theorem dX7_bestWork_36 : decode cX7_bestWork 36 = .ok (.aload_n 0, 1) := by decide +kernel
theorem dX7_bestWork_37 : decode cX7_bestWork 37 = .ok (.iload_n 1, 1) := by decide +kernel
theorem dX7_bestWork_38 : decode cX7_bestWork 38 = .ok (.iload_n 2, 1) := by decide +kernel
theorem dX7_bestWork_39 : decode cX7_bestWork 39 = .ok (.iload_n 3, 1) := by decide +kernel
theorem dX7_bestWork_40 : decode cX7_bestWork 40 = .ok (.invokevirtual 209, 3) := by decide +kernel
theorem dX7_bestWork_43 : decode cX7_bestWork 43 = .ok (.goto 8, 3) := by decide +kernel
theorem dX7_bestWork_46 : decode cX7_bestWork 46 = .ok (.aload_n 0, 1) := by decide +kernel
theorem dX7_bestWork_47 : decode cX7_bestWork 47 = .ok (.iconst 2, 1) := by decide +kernel
theorem dX7_bestWork_48 : decode cX7_bestWork 48 = .ok (.invokevirtual 76, 3) := by decide +kernel
theorem dX7_bestWork_51 : decode cX7_bestWork 51 = .ok (.ireturn, 1) := by decide +kernel
theorem dX7_freeNow_0 : decode cX7_freeNow 0 = .ok (.aload_n 0, 1) := by decide +kernel
theorem dX7_freeNow_1 : decode cX7_freeNow 1 = .ok (.getfield 93, 3) := by decide +kernel
theorem dX7_freeNow_4 : decode cX7_freeNow 4 = .ok (.iconst 5, 1) := by decide +kernel
theorem dX7_freeNow_5 : decode cX7_freeNow 5 = .ok (.iadd, 1) := by decide +kernel
theorem dX7_freeNow_6 : decode cX7_freeNow 6 = .ok (.istore 4, 2) := by decide +kernel
theorem dX7_freeNow_8 : decode cX7_freeNow 8 = .ok (.iload 4, 2) := by decide +kernel
theorem dX7_freeNow_10 : decode cX7_freeNow 10 = .ok (.sipush 2000, 3) := by decide +kernel
theorem dX7_freeNow_13 : decode cX7_freeNow 13 = .ok (.if_icmp .gt 24, 3) := by decide +kernel
theorem dX7_freeNow_16 : decode cX7_freeNow 16 = .ok (.aload_n 0, 1) := by decide +kernel
theorem dX7_freeNow_17 : decode cX7_freeNow 17 = .ok (.iload_n 1, 1) := by decide +kernel
theorem dX7_freeNow_18 : decode cX7_freeNow 18 = .ok (.iload_n 2, 1) := by decide +kernel
theorem dX7_freeNow_19 : decode cX7_freeNow 19 = .ok (.iload_n 3, 1) := by decide +kernel
theorem dX7_freeNow_20 : decode cX7_freeNow 20 = .ok (.iload 4, 2) := by decide +kernel
theorem dX7_freeNow_22 : decode cX7_freeNow 22 = .ok (.invokevirtual 132, 3) := by decide +kernel
theorem dX7_freeNow_25 : decode cX7_freeNow 25 = .ok (.ifCond .eq 6, 3) := by decide +kernel
theorem dX7_freeNow_28 : decode cX7_freeNow 28 = .ok (.iload 4, 2) := by decide +kernel
theorem dX7_freeNow_30 : decode cX7_freeNow 30 = .ok (.ireturn, 1) := by decide +kernel
theorem dX7_freeNow_31 : decode cX7_freeNow 31 = .ok (.iinc 4 1, 3) := by decide +kernel
theorem dX7_freeNow_34 : decode cX7_freeNow 34 = .ok (.goto (-26), 3) := by decide +kernel
theorem dX7_freeNow_37 : decode cX7_freeNow 37 = .ok (.iconst (-1), 1) := by decide +kernel
theorem dX7_freeNow_38 : decode cX7_freeNow 38 = .ok (.ireturn, 1) := by decide +kernel
theorem dX7_freeDay_0 : decode cX7_freeDay 0 = .ok (.aload_n 0, 1) := by decide +kernel
theorem dX7_freeDay_1 : decode cX7_freeDay 1 = .ok (.iconst 0, 1) := by decide +kernel
theorem dX7_freeDay_2 : decode cX7_freeDay 2 = .ok (.putfield 31, 3) := by decide +kernel
theorem dX7_freeDay_5 : decode cX7_freeDay 5 = .ok (.iload_n 1, 1) := by decide +kernel
theorem dX7_freeDay_6 : decode cX7_freeDay 6 = .ok (.iload_n 2, 1) := by decide +kernel
theorem dX7_freeDay_7 : decode cX7_freeDay 7 = .ok (.iload_n 3, 1) := by decide +kernel
theorem dX7_freeDay_8 : decode cX7_freeDay 8 = .ok (.invokestatic 118, 3) := by decide +kernel
theorem dX7_freeDay_11 : decode cX7_freeDay 11 = .ok (.ifCond .ne 9, 3) := by decide +kernel
theorem dX7_freeDay_14 : decode cX7_freeDay 14 = .ok (.aload_n 0, 1) := by decide +kernel
theorem dX7_freeDay_15 : decode cX7_freeDay 15 = .ok (.iconst 1, 1) := by decide +kernel
theorem dX7_freeDay_16 : decode cX7_freeDay 16 = .ok (.invokevirtual 76, 3) := by decide +kernel
theorem dX7_freeDay_19 : decode cX7_freeDay 19 = .ok (.ireturn, 1) := by decide +kernel
theorem dX7_freeDay_20 : decode cX7_freeDay 20 = .ok (.iload_n 3, 1) := by decide +kernel
theorem dX7_freeDay_21 : decode cX7_freeDay 21 = .ok (.iload_n 2, 1) := by decide +kernel
theorem dX7_freeDay_22 : decode cX7_freeDay 22 = .ok (.if_icmp .lt 13, 3) := by decide +kernel
theorem dX7_freeDay_25 : decode cX7_freeDay 25 = .ok (.aload_n 0, 1) := by decide +kernel
theorem dX7_freeDay_26 : decode cX7_freeDay 26 = .ok (.iload_n 1, 1) := by decide +kernel
theorem dX7_freeDay_27 : decode cX7_freeDay 27 = .ok (.iload_n 2, 1) := by decide +kernel
theorem dX7_freeDay_28 : decode cX7_freeDay 28 = .ok (.iload_n 3, 1) := by decide +kernel
theorem dX7_freeDay_29 : decode cX7_freeDay 29 = .ok (.invokevirtual 213, 3) := by decide +kernel
theorem dX7_freeDay_32 : decode cX7_freeDay 32 = .ok (.goto 8, 3) := by decide +kernel
theorem dX7_freeDay_35 : decode cX7_freeDay 35 = .ok (.aload_n 0, 1) := by decide +kernel
theorem dX7_freeDay_36 : decode cX7_freeDay 36 = .ok (.iconst 2, 1) := by decide +kernel
theorem dX7_freeDay_37 : decode cX7_freeDay 37 = .ok (.invokevirtual 76, 3) := by decide +kernel
theorem dX7_freeDay_40 : decode cX7_freeDay 40 = .ok (.ireturn, 1) := by decide +kernel
theorem dX7_wouldOverrun_0 : decode cX7_wouldOverrun 0 = .ok (.aload_n 0, 1) := by decide +kernel
theorem dX7_wouldOverrun_1 : decode cX7_wouldOverrun 1 = .ok (.iconst 0, 1) := by decide +kernel
theorem dX7_wouldOverrun_2 : decode cX7_wouldOverrun 2 = .ok (.putfield 31, 3) := by decide +kernel
theorem dX7_wouldOverrun_5 : decode cX7_wouldOverrun 5 = .ok (.aload_n 0, 1) := by decide +kernel
theorem dX7_wouldOverrun_6 : decode cX7_wouldOverrun 6 = .ok (.iload_n 1, 1) := by decide +kernel
theorem dX7_wouldOverrun_7 : decode cX7_wouldOverrun 7 = .ok (.invokevirtual 136, 3) := by decide +kernel
theorem dX7_wouldOverrun_10 : decode cX7_wouldOverrun 10 = .ok (.ifCond .ne 9, 3) := by decide +kernel
theorem dX7_wouldOverrun_13 : decode cX7_wouldOverrun 13 = .ok (.aload_n 0, 1) := by decide +kernel
theorem dX7_wouldOverrun_14 : decode cX7_wouldOverrun 14 = .ok (.iconst 1, 1) := by decide +kernel
theorem dX7_wouldOverrun_15 : decode cX7_wouldOverrun 15 = .ok (.invokevirtual 76, 3) := by decide +kernel
theorem dX7_wouldOverrun_18 : decode cX7_wouldOverrun 18 = .ok (.ireturn, 1) := by decide +kernel
theorem dX7_wouldOverrun_19 : decode cX7_wouldOverrun 19 = .ok (.aload_n 0, 1) := by decide +kernel
theorem dX7_wouldOverrun_20 : decode cX7_wouldOverrun 20 = .ok (.getfield 21, 3) := by decide +kernel
theorem dX7_wouldOverrun_23 : decode cX7_wouldOverrun 23 = .ok (.iload_n 1, 1) := by decide +kernel
theorem dX7_wouldOverrun_24 : decode cX7_wouldOverrun 24 = .ok (.invokevirtual 52, 3) := by decide +kernel
theorem dX7_wouldOverrun_27 : decode cX7_wouldOverrun 27 = .ok (.checkcast 56, 3) := by decide +kernel
theorem dX7_wouldOverrun_30 : decode cX7_wouldOverrun 30 = .ok (.astore_n 2, 1) := by decide +kernel
theorem dX7_wouldOverrun_31 : decode cX7_wouldOverrun 31 = .ok (.aload_n 2, 1) := by decide +kernel
theorem dX7_wouldOverrun_32 : decode cX7_wouldOverrun 32 = .ok (.iconst 0, 1) := by decide +kernel
theorem dX7_wouldOverrun_33 : decode cX7_wouldOverrun 33 = .ok (.iaload, 1) := by decide +kernel
theorem dX7_wouldOverrun_34 : decode cX7_wouldOverrun 34 = .ok (.iconst 1, 1) := by decide +kernel
theorem dX7_wouldOverrun_35 : decode cX7_wouldOverrun 35 = .ok (.if_icmp .gt 22, 3) := by decide +kernel
theorem dX7_wouldOverrun_38 : decode cX7_wouldOverrun 38 = .ok (.iconst 0, 1) := by decide +kernel
theorem dX7_wouldOverrun_39 : decode cX7_wouldOverrun 39 = .ok (.aload_n 2, 1) := by decide +kernel
theorem dX7_wouldOverrun_40 : decode cX7_wouldOverrun 40 = .ok (.aload_n 0, 1) := by decide +kernel
theorem dX7_wouldOverrun_41 : decode cX7_wouldOverrun 41 = .ok (.invokevirtual 153, 3) := by decide +kernel
theorem dX7_wouldOverrun_44 : decode cX7_wouldOverrun 44 = .ok (.invokestatic 157, 3) := by decide +kernel
theorem dX7_wouldOverrun_47 : decode cX7_wouldOverrun 47 = .ok (.aload_n 2, 1) := by decide +kernel
theorem dX7_wouldOverrun_48 : decode cX7_wouldOverrun 48 = .ok (.iconst 5, 1) := by decide +kernel
theorem dX7_wouldOverrun_49 : decode cX7_wouldOverrun 49 = .ok (.iaload, 1) := by decide +kernel
theorem dX7_wouldOverrun_50 : decode cX7_wouldOverrun 50 = .ok (.isub, 1) := by decide +kernel
theorem dX7_wouldOverrun_51 : decode cX7_wouldOverrun 51 = .ok (.invokestatic 150, 3) := by decide +kernel
theorem dX7_wouldOverrun_54 : decode cX7_wouldOverrun 54 = .ok (.goto 8, 3) := by decide +kernel
theorem dX7_wouldOverrun_57 : decode cX7_wouldOverrun 57 = .ok (.aload_n 0, 1) := by decide +kernel
theorem dX7_wouldOverrun_58 : decode cX7_wouldOverrun 58 = .ok (.iconst 2, 1) := by decide +kernel
theorem dX7_wouldOverrun_59 : decode cX7_wouldOverrun 59 = .ok (.invokevirtual 76, 3) := by decide +kernel
theorem dX7_wouldOverrun_62 : decode cX7_wouldOverrun 62 = .ok (.ireturn, 1) := by decide +kernel
theorem dX7_add_0 : decode cX7_add 0 = .ok (.aload_n 0, 1) := by decide +kernel
theorem dX7_add_1 : decode cX7_add 1 = .ok (.aload_n 0, 1) := by decide +kernel
theorem dX7_add_2 : decode cX7_add 2 = .ok (.getfield 216, 3) := by decide +kernel
theorem dX7_add_5 : decode cX7_add 5 = .ok (.ldc2_w 220, 3) := by decide +kernel
theorem dX7_add_8 : decode cX7_add 8 = .ok (.lmul, 1) := by decide +kernel
theorem dX7_add_9 : decode cX7_add 9 = .ok (.iload_n 1, 1) := by decide +kernel
theorem dX7_add_10 : decode cX7_add 10 = .ok (.i2l, 1) := by decide +kernel
theorem dX7_add_11 : decode cX7_add 11 = .ok (.ladd, 1) := by decide +kernel
theorem dX7_add_12 : decode cX7_add 12 = .ok (.putfield 216, 3) := by decide +kernel
theorem dX7_add_15 : decode cX7_add 15 = .ok (.return_, 1) := by decide +kernel
theorem dX7_digest_0 : decode cX7_digest 0 = .ok (.aload_n 0, 1) := by decide +kernel
theorem dX7_digest_1 : decode cX7_digest 1 = .ok (.iconst 0, 1) := by decide +kernel
theorem dX7_digest_2 : decode cX7_digest 2 = .ok (.putfield 31, 3) := by decide +kernel
theorem dX7_digest_5 : decode cX7_digest 5 = .ok (.aload_n 0, 1) := by decide +kernel
theorem dX7_digest_6 : decode cX7_digest 6 = .ok (.ldc2_w 222, 3) := by decide +kernel
theorem dX7_digest_9 : decode cX7_digest 9 = .ok (.putfield 216, 3) := by decide +kernel
theorem dX7_digest_12 : decode cX7_digest 12 = .ok (.iconst 0, 1) := by decide +kernel
theorem dX7_digest_13 : decode cX7_digest 13 = .ok (.istore_n 1, 1) := by decide +kernel
theorem dX7_digest_14 : decode cX7_digest 14 = .ok (.iload_n 1, 1) := by decide +kernel
theorem dX7_digest_15 : decode cX7_digest 15 = .ok (.bipush 17, 2) := by decide +kernel
theorem dX7_digest_17 : decode cX7_digest 17 = .ok (.if_icmp .ge 18, 3) := by decide +kernel
theorem dX7_digest_20 : decode cX7_digest 20 = .ok (.aload_n 0, 1) := by decide +kernel
theorem dX7_digest_21 : decode cX7_digest 21 = .ok (.aload_n 0, 1) := by decide +kernel
theorem dX7_digest_22 : decode cX7_digest 22 = .ok (.iload_n 1, 1) := by decide +kernel
theorem dX7_digest_23 : decode cX7_digest 23 = .ok (.invokevirtual 191, 3) := by decide +kernel
theorem dX7_digest_26 : decode cX7_digest 26 = .ok (.invokevirtual 224, 3) := by decide +kernel
theorem dX7_digest_29 : decode cX7_digest 29 = .ok (.iinc 1 1, 3) := by decide +kernel
theorem dX7_digest_32 : decode cX7_digest 32 = .ok (.goto (-18), 3) := by decide +kernel
theorem dX7_digest_35 : decode cX7_digest 35 = .ok (.iconst 0, 1) := by decide +kernel
theorem dX7_digest_36 : decode cX7_digest 36 = .ok (.istore_n 1, 1) := by decide +kernel
theorem dX7_digest_37 : decode cX7_digest 37 = .ok (.iload_n 1, 1) := by decide +kernel
theorem dX7_digest_38 : decode cX7_digest 38 = .ok (.bipush 20, 2) := by decide +kernel
theorem dX7_digest_40 : decode cX7_digest 40 = .ok (.if_icmp .ge 109, 3) := by decide +kernel
theorem dX7_digest_43 : decode cX7_digest 43 = .ok (.iconst 0, 1) := by decide +kernel
theorem dX7_digest_44 : decode cX7_digest 44 = .ok (.istore_n 2, 1) := by decide +kernel
theorem dX7_digest_45 : decode cX7_digest 45 = .ok (.iload_n 2, 1) := by decide +kernel
theorem dX7_digest_46 : decode cX7_digest 46 = .ok (.bipush 8, 2) := by decide +kernel
theorem dX7_digest_48 : decode cX7_digest 48 = .ok (.if_icmp .ge 19, 3) := by decide +kernel
theorem dX7_digest_51 : decode cX7_digest 51 = .ok (.aload_n 0, 1) := by decide +kernel
theorem dX7_digest_52 : decode cX7_digest 52 = .ok (.aload_n 0, 1) := by decide +kernel
theorem dX7_digest_53 : decode cX7_digest 53 = .ok (.iload_n 1, 1) := by decide +kernel
theorem dX7_digest_54 : decode cX7_digest 54 = .ok (.iload_n 2, 1) := by decide +kernel
theorem dX7_digest_55 : decode cX7_digest 55 = .ok (.invokevirtual 171, 3) := by decide +kernel
theorem dX7_digest_58 : decode cX7_digest 58 = .ok (.invokevirtual 224, 3) := by decide +kernel
theorem dX7_digest_61 : decode cX7_digest 61 = .ok (.iinc 2 1, 3) := by decide +kernel
theorem dX7_digest_64 : decode cX7_digest 64 = .ok (.goto (-19), 3) := by decide +kernel
theorem dX7_digest_67 : decode cX7_digest 67 = .ok (.iconst 0, 1) := by decide +kernel
theorem dX7_digest_68 : decode cX7_digest 68 = .ok (.istore_n 2, 1) := by decide +kernel
theorem dX7_digest_69 : decode cX7_digest 69 = .ok (.iload_n 2, 1) := by decide +kernel
theorem dX7_digest_70 : decode cX7_digest 70 = .ok (.iconst 5, 1) := by decide +kernel
theorem dX7_digest_71 : decode cX7_digest 71 = .ok (.if_icmp .ge 19, 3) := by decide +kernel
theorem dX7_digest_74 : decode cX7_digest 74 = .ok (.aload_n 0, 1) := by decide +kernel
theorem dX7_digest_75 : decode cX7_digest 75 = .ok (.aload_n 0, 1) := by decide +kernel
theorem dX7_digest_76 : decode cX7_digest 76 = .ok (.iload_n 1, 1) := by decide +kernel
theorem dX7_digest_77 : decode cX7_digest 77 = .ok (.iload_n 2, 1) := by decide +kernel
theorem dX7_digest_78 : decode cX7_digest 78 = .ok (.invokevirtual 178, 3) := by decide +kernel
theorem dX7_digest_81 : decode cX7_digest 81 = .ok (.invokevirtual 224, 3) := by decide +kernel
theorem dX7_digest_84 : decode cX7_digest 84 = .ok (.iinc 2 1, 3) := by decide +kernel
theorem dX7_digest_87 : decode cX7_digest 87 = .ok (.goto (-18), 3) := by decide +kernel
theorem dX7_digest_90 : decode cX7_digest 90 = .ok (.aload_n 0, 1) := by decide +kernel
theorem dX7_digest_91 : decode cX7_digest 91 = .ok (.aload_n 0, 1) := by decide +kernel
theorem dX7_digest_92 : decode cX7_digest 92 = .ok (.iload_n 1, 1) := by decide +kernel
theorem dX7_digest_93 : decode cX7_digest 93 = .ok (.iconst 0, 1) := by decide +kernel
theorem dX7_digest_94 : decode cX7_digest 94 = .ok (.invokevirtual 184, 3) := by decide +kernel
theorem dX7_digest_97 : decode cX7_digest 97 = .ok (.invokevirtual 224, 3) := by decide +kernel
theorem dX7_digest_100 : decode cX7_digest 100 = .ok (.aload_n 0, 1) := by decide +kernel
theorem dX7_digest_101 : decode cX7_digest 101 = .ok (.aload_n 0, 1) := by decide +kernel
theorem dX7_digest_102 : decode cX7_digest 102 = .ok (.iload_n 1, 1) := by decide +kernel
theorem dX7_digest_103 : decode cX7_digest 103 = .ok (.iconst 1, 1) := by decide +kernel
theorem dX7_digest_104 : decode cX7_digest 104 = .ok (.invokevirtual 184, 3) := by decide +kernel
theorem dX7_digest_107 : decode cX7_digest 107 = .ok (.invokevirtual 224, 3) := by decide +kernel
theorem dX7_digest_110 : decode cX7_digest 110 = .ok (.aload_n 0, 1) := by decide +kernel
theorem dX7_digest_111 : decode cX7_digest 111 = .ok (.aload_n 0, 1) := by decide +kernel
theorem dX7_digest_112 : decode cX7_digest 112 = .ok (.iload_n 1, 1) := by decide +kernel
theorem dX7_digest_113 : decode cX7_digest 113 = .ok (.invokevirtual 196, 3) := by decide +kernel
theorem dX7_digest_116 : decode cX7_digest 116 = .ok (.invokevirtual 224, 3) := by decide +kernel
theorem dX7_digest_119 : decode cX7_digest 119 = .ok (.aload_n 0, 1) := by decide +kernel
theorem dX7_digest_120 : decode cX7_digest 120 = .ok (.aload_n 0, 1) := by decide +kernel
theorem dX7_digest_121 : decode cX7_digest 121 = .ok (.iload_n 1, 1) := by decide +kernel
theorem dX7_digest_122 : decode cX7_digest 122 = .ok (.bipush 20, 2) := by decide +kernel
theorem dX7_digest_124 : decode cX7_digest 124 = .ok (.invokevirtual 202, 3) := by decide +kernel
theorem dX7_digest_127 : decode cX7_digest 127 = .ok (.invokevirtual 224, 3) := by decide +kernel
theorem dX7_digest_130 : decode cX7_digest 130 = .ok (.aload_n 0, 1) := by decide +kernel
theorem dX7_digest_131 : decode cX7_digest 131 = .ok (.aload_n 0, 1) := by decide +kernel
theorem dX7_digest_132 : decode cX7_digest 132 = .ok (.iload_n 1, 1) := by decide +kernel
theorem dX7_digest_133 : decode cX7_digest 133 = .ok (.bipush 20, 2) := by decide +kernel
theorem dX7_digest_135 : decode cX7_digest 135 = .ok (.bipush 30, 2) := by decide +kernel
theorem dX7_digest_137 : decode cX7_digest 137 = .ok (.invokevirtual 209, 3) := by decide +kernel
theorem dX7_digest_140 : decode cX7_digest 140 = .ok (.invokevirtual 224, 3) := by decide +kernel
theorem dX7_digest_143 : decode cX7_digest 143 = .ok (.iinc 1 1, 3) := by decide +kernel
theorem dX7_digest_146 : decode cX7_digest 146 = .ok (.goto (-109), 3) := by decide +kernel
theorem dX7_digest_149 : decode cX7_digest 149 = .ok (.aload_n 0, 1) := by decide +kernel
theorem dX7_digest_150 : decode cX7_digest 150 = .ok (.getfield 17, 3) := by decide +kernel
theorem dX7_digest_153 : decode cX7_digest 153 = .ok (.invokevirtual 79, 3) := by decide +kernel
theorem dX7_digest_156 : decode cX7_digest 156 = .ok (.astore_n 1, 1) := by decide +kernel
theorem dX7_digest_157 : decode cX7_digest 157 = .ok (.aload_n 1, 1) := by decide +kernel
theorem dX7_digest_158 : decode cX7_digest 158 = .ok (.invokeinterface 83 1, 5) := by decide +kernel
theorem dX7_digest_163 : decode cX7_digest 163 = .ok (.ifCond .eq 50, 3) := by decide +kernel
theorem dX7_digest_166 : decode cX7_digest 166 = .ok (.aload_n 1, 1) := by decide +kernel
theorem dX7_digest_167 : decode cX7_digest 167 = .ok (.invokeinterface 89 1, 5) := by decide +kernel
theorem dX7_digest_172 : decode cX7_digest 172 = .ok (.checkcast 56, 3) := by decide +kernel
theorem dX7_digest_175 : decode cX7_digest 175 = .ok (.astore_n 2, 1) := by decide +kernel
theorem dX7_digest_176 : decode cX7_digest 176 = .ok (.aload_n 2, 1) := by decide +kernel
theorem dX7_digest_177 : decode cX7_digest 177 = .ok (.astore_n 3, 1) := by decide +kernel
theorem dX7_digest_178 : decode cX7_digest 178 = .ok (.aload_n 3, 1) := by decide +kernel
theorem dX7_digest_179 : decode cX7_digest 179 = .ok (.arraylength, 1) := by decide +kernel
theorem dX7_digest_180 : decode cX7_digest 180 = .ok (.istore 4, 2) := by decide +kernel
theorem dX7_digest_182 : decode cX7_digest 182 = .ok (.iconst 0, 1) := by decide +kernel
theorem dX7_digest_183 : decode cX7_digest 183 = .ok (.istore 5, 2) := by decide +kernel
theorem dX7_digest_185 : decode cX7_digest 185 = .ok (.iload 5, 2) := by decide +kernel
theorem dX7_digest_187 : decode cX7_digest 187 = .ok (.iload 4, 2) := by decide +kernel
theorem dX7_digest_189 : decode cX7_digest 189 = .ok (.if_icmp .ge 21, 3) := by decide +kernel
theorem dX7_digest_192 : decode cX7_digest 192 = .ok (.aload_n 3, 1) := by decide +kernel
theorem dX7_digest_193 : decode cX7_digest 193 = .ok (.iload 5, 2) := by decide +kernel
theorem dX7_digest_195 : decode cX7_digest 195 = .ok (.iaload, 1) := by decide +kernel
theorem dX7_digest_196 : decode cX7_digest 196 = .ok (.istore 6, 2) := by decide +kernel
theorem dX7_digest_198 : decode cX7_digest 198 = .ok (.aload_n 0, 1) := by decide +kernel
theorem dX7_digest_199 : decode cX7_digest 199 = .ok (.iload 6, 2) := by decide +kernel
theorem dX7_digest_201 : decode cX7_digest 201 = .ok (.invokevirtual 224, 3) := by decide +kernel
theorem dX7_digest_204 : decode cX7_digest 204 = .ok (.iinc 5 1, 3) := by decide +kernel
theorem dX7_digest_207 : decode cX7_digest 207 = .ok (.goto (-22), 3) := by decide +kernel
theorem dX7_digest_210 : decode cX7_digest 210 = .ok (.goto (-53), 3) := by decide +kernel
theorem dX7_digest_213 : decode cX7_digest 213 = .ok (.iconst 0, 1) := by decide +kernel
theorem dX7_digest_214 : decode cX7_digest 214 = .ok (.istore_n 1, 1) := by decide +kernel
theorem dX7_digest_215 : decode cX7_digest 215 = .ok (.iload_n 1, 1) := by decide +kernel
theorem dX7_digest_216 : decode cX7_digest 216 = .ok (.aload_n 0, 1) := by decide +kernel
theorem dX7_digest_217 : decode cX7_digest 217 = .ok (.getfield 21, 3) := by decide +kernel
theorem dX7_digest_220 : decode cX7_digest 220 = .ok (.invokevirtual 64, 3) := by decide +kernel
theorem dX7_digest_223 : decode cX7_digest 223 = .ok (.if_icmp .ge 33, 3) := by decide +kernel
theorem dX7_digest_226 : decode cX7_digest 226 = .ok (.iconst 0, 1) := by decide +kernel
theorem dX7_digest_227 : decode cX7_digest 227 = .ok (.istore_n 2, 1) := by decide +kernel
theorem dX7_digest_228 : decode cX7_digest 228 = .ok (.iload_n 2, 1) := by decide +kernel
theorem dX7_digest_229 : decode cX7_digest 229 = .ok (.bipush 10, 2) := by decide +kernel
theorem dX7_digest_231 : decode cX7_digest 231 = .ok (.if_icmp .ge 19, 3) := by decide +kernel
theorem dX7_digest_234 : decode cX7_digest 234 = .ok (.aload_n 0, 1) := by decide +kernel
theorem dX7_digest_235 : decode cX7_digest 235 = .ok (.aload_n 0, 1) := by decide +kernel
theorem dX7_digest_236 : decode cX7_digest 236 = .ok (.iload_n 1, 1) := by decide +kernel
theorem dX7_digest_237 : decode cX7_digest 237 = .ok (.iload_n 2, 1) := by decide +kernel
theorem dX7_digest_238 : decode cX7_digest 238 = .ok (.invokevirtual 188, 3) := by decide +kernel
theorem dX7_digest_241 : decode cX7_digest 241 = .ok (.invokevirtual 224, 3) := by decide +kernel
theorem dX7_digest_244 : decode cX7_digest 244 = .ok (.iinc 2 1, 3) := by decide +kernel
theorem dX7_digest_247 : decode cX7_digest 247 = .ok (.goto (-19), 3) := by decide +kernel
theorem dX7_digest_250 : decode cX7_digest 250 = .ok (.iinc 1 1, 3) := by decide +kernel
theorem dX7_digest_253 : decode cX7_digest 253 = .ok (.goto (-38), 3) := by decide +kernel
theorem dX7_digest_256 : decode cX7_digest 256 = .ok (.aload_n 0, 1) := by decide +kernel
theorem dX7_digest_257 : decode cX7_digest 257 = .ok (.aload_n 0, 1) := by decide +kernel
theorem dX7_digest_258 : decode cX7_digest 258 = .ok (.iconst 0, 1) := by decide +kernel
theorem dX7_digest_259 : decode cX7_digest 259 = .ok (.iconst 0, 1) := by decide +kernel
theorem dX7_digest_260 : decode cX7_digest 260 = .ok (.bipush 9, 2) := by decide +kernel
theorem dX7_digest_262 : decode cX7_digest 262 = .ok (.invokevirtual 213, 3) := by decide +kernel
theorem dX7_digest_265 : decode cX7_digest 265 = .ok (.invokevirtual 224, 3) := by decide +kernel
theorem dX7_digest_268 : decode cX7_digest 268 = .ok (.aload_n 0, 1) := by decide +kernel
theorem dX7_digest_269 : decode cX7_digest 269 = .ok (.aload_n 0, 1) := by decide +kernel
theorem dX7_digest_270 : decode cX7_digest 270 = .ok (.iconst 1, 1) := by decide +kernel
theorem dX7_digest_271 : decode cX7_digest 271 = .ok (.iconst 3, 1) := by decide +kernel
theorem dX7_digest_272 : decode cX7_digest 272 = .ok (.iconst 5, 1) := by decide +kernel
theorem dX7_digest_273 : decode cX7_digest 273 = .ok (.invokevirtual 213, 3) := by decide +kernel
theorem dX7_digest_276 : decode cX7_digest 276 = .ok (.invokevirtual 224, 3) := by decide +kernel
theorem dX7_digest_279 : decode cX7_digest 279 = .ok (.aload_n 0, 1) := by decide +kernel
theorem dX7_digest_280 : decode cX7_digest 280 = .ok (.getfield 216, 3) := by decide +kernel
theorem dX7_digest_283 : decode cX7_digest 283 = .ok (.lreturn, 1) := by decide +kernel
theorem dJ6_bitCount_0f7a4_0 : decode cJ6_bitCount_0f7a4 0 = .ok (.iload_n 0, 1) := by decide +kernel
theorem dJ6_bitCount_0f7a4_1 : decode cJ6_bitCount_0f7a4 1 = .ok (.iload_n 0, 1) := by decide +kernel
theorem dJ6_bitCount_0f7a4_2 : decode cJ6_bitCount_0f7a4 2 = .ok (.iconst 1, 1) := by decide +kernel
theorem dJ6_bitCount_0f7a4_3 : decode cJ6_bitCount_0f7a4 3 = .ok (.iushr, 1) := by decide +kernel
theorem dJ6_bitCount_0f7a4_4 : decode cJ6_bitCount_0f7a4 4 = .ok (.ldc_w 265, 3) := by decide +kernel
theorem dJ6_bitCount_0f7a4_7 : decode cJ6_bitCount_0f7a4 7 = .ok (.iand, 1) := by decide +kernel
theorem dJ6_bitCount_0f7a4_8 : decode cJ6_bitCount_0f7a4 8 = .ok (.isub, 1) := by decide +kernel
theorem dJ6_bitCount_0f7a4_9 : decode cJ6_bitCount_0f7a4 9 = .ok (.istore_n 0, 1) := by decide +kernel
theorem dJ6_bitCount_0f7a4_10 : decode cJ6_bitCount_0f7a4 10 = .ok (.iload_n 0, 1) := by decide +kernel
theorem dJ6_bitCount_0f7a4_11 : decode cJ6_bitCount_0f7a4 11 = .ok (.ldc_w 266, 3) := by decide +kernel
theorem dJ6_bitCount_0f7a4_14 : decode cJ6_bitCount_0f7a4 14 = .ok (.iand, 1) := by decide +kernel
theorem dJ6_bitCount_0f7a4_15 : decode cJ6_bitCount_0f7a4 15 = .ok (.iload_n 0, 1) := by decide +kernel
theorem dJ6_bitCount_0f7a4_16 : decode cJ6_bitCount_0f7a4 16 = .ok (.iconst 2, 1) := by decide +kernel
theorem dJ6_bitCount_0f7a4_17 : decode cJ6_bitCount_0f7a4 17 = .ok (.iushr, 1) := by decide +kernel
theorem dJ6_bitCount_0f7a4_18 : decode cJ6_bitCount_0f7a4 18 = .ok (.ldc_w 266, 3) := by decide +kernel
theorem dJ6_bitCount_0f7a4_21 : decode cJ6_bitCount_0f7a4 21 = .ok (.iand, 1) := by decide +kernel
theorem dJ6_bitCount_0f7a4_22 : decode cJ6_bitCount_0f7a4 22 = .ok (.iadd, 1) := by decide +kernel
theorem dJ6_bitCount_0f7a4_23 : decode cJ6_bitCount_0f7a4 23 = .ok (.istore_n 0, 1) := by decide +kernel
theorem dJ6_bitCount_0f7a4_24 : decode cJ6_bitCount_0f7a4 24 = .ok (.iload_n 0, 1) := by decide +kernel
theorem dJ6_bitCount_0f7a4_25 : decode cJ6_bitCount_0f7a4 25 = .ok (.iload_n 0, 1) := by decide +kernel
theorem dJ6_bitCount_0f7a4_26 : decode cJ6_bitCount_0f7a4 26 = .ok (.iconst 4, 1) := by decide +kernel
theorem dJ6_bitCount_0f7a4_27 : decode cJ6_bitCount_0f7a4 27 = .ok (.iushr, 1) := by decide +kernel
theorem dJ6_bitCount_0f7a4_28 : decode cJ6_bitCount_0f7a4 28 = .ok (.iadd, 1) := by decide +kernel
theorem dJ6_bitCount_0f7a4_29 : decode cJ6_bitCount_0f7a4 29 = .ok (.ldc_w 267, 3) := by decide +kernel
theorem dJ6_bitCount_0f7a4_32 : decode cJ6_bitCount_0f7a4 32 = .ok (.iand, 1) := by decide +kernel
theorem dJ6_bitCount_0f7a4_33 : decode cJ6_bitCount_0f7a4 33 = .ok (.istore_n 0, 1) := by decide +kernel
theorem dJ6_bitCount_0f7a4_34 : decode cJ6_bitCount_0f7a4 34 = .ok (.iload_n 0, 1) := by decide +kernel
theorem dJ6_bitCount_0f7a4_35 : decode cJ6_bitCount_0f7a4 35 = .ok (.iload_n 0, 1) := by decide +kernel
theorem dJ6_bitCount_0f7a4_36 : decode cJ6_bitCount_0f7a4 36 = .ok (.bipush 8, 2) := by decide +kernel
theorem dJ6_bitCount_0f7a4_38 : decode cJ6_bitCount_0f7a4 38 = .ok (.iushr, 1) := by decide +kernel
theorem dJ6_bitCount_0f7a4_39 : decode cJ6_bitCount_0f7a4 39 = .ok (.iadd, 1) := by decide +kernel
theorem dJ6_bitCount_0f7a4_40 : decode cJ6_bitCount_0f7a4 40 = .ok (.istore_n 0, 1) := by decide +kernel
theorem dJ6_bitCount_0f7a4_41 : decode cJ6_bitCount_0f7a4 41 = .ok (.iload_n 0, 1) := by decide +kernel
theorem dJ6_bitCount_0f7a4_42 : decode cJ6_bitCount_0f7a4 42 = .ok (.iload_n 0, 1) := by decide +kernel
theorem dJ6_bitCount_0f7a4_43 : decode cJ6_bitCount_0f7a4 43 = .ok (.bipush 16, 2) := by decide +kernel
theorem dJ6_bitCount_0f7a4_45 : decode cJ6_bitCount_0f7a4 45 = .ok (.iushr, 1) := by decide +kernel
theorem dJ6_bitCount_0f7a4_46 : decode cJ6_bitCount_0f7a4 46 = .ok (.iadd, 1) := by decide +kernel
theorem dJ6_bitCount_0f7a4_47 : decode cJ6_bitCount_0f7a4 47 = .ok (.istore_n 0, 1) := by decide +kernel
theorem dJ6_bitCount_0f7a4_48 : decode cJ6_bitCount_0f7a4 48 = .ok (.iload_n 0, 1) := by decide +kernel
theorem dJ6_bitCount_0f7a4_49 : decode cJ6_bitCount_0f7a4 49 = .ok (.bipush 63, 2) := by decide +kernel
theorem dJ6_bitCount_0f7a4_51 : decode cJ6_bitCount_0f7a4 51 = .ok (.iand, 1) := by decide +kernel
theorem dJ6_bitCount_0f7a4_52 : decode cJ6_bitCount_0f7a4 52 = .ok (.ireturn, 1) := by decide +kernel
theorem dJ9_max_7cf53_0 : decode cJ9_max_7cf53 0 = .ok (.iload_n 0, 1) := by decide +kernel
theorem dJ9_max_7cf53_1 : decode cJ9_max_7cf53 1 = .ok (.iload_n 1, 1) := by decide +kernel
theorem dJ9_max_7cf53_2 : decode cJ9_max_7cf53 2 = .ok (.if_icmp .lt 7, 3) := by decide +kernel
theorem dJ9_max_7cf53_5 : decode cJ9_max_7cf53 5 = .ok (.iload_n 0, 1) := by decide +kernel
theorem dJ9_max_7cf53_6 : decode cJ9_max_7cf53 6 = .ok (.goto 4, 3) := by decide +kernel
theorem dJ9_max_7cf53_9 : decode cJ9_max_7cf53 9 = .ok (.iload_n 1, 1) := by decide +kernel
theorem dJ9_max_7cf53_10 : decode cJ9_max_7cf53 10 = .ok (.ireturn, 1) := by decide +kernel
theorem dJ9_min_7cf53_0 : decode cJ9_min_7cf53 0 = .ok (.iload_n 0, 1) := by decide +kernel
theorem dJ9_min_7cf53_1 : decode cJ9_min_7cf53 1 = .ok (.iload_n 1, 1) := by decide +kernel
theorem dJ9_min_7cf53_2 : decode cJ9_min_7cf53 2 = .ok (.if_icmp .gt 7, 3) := by decide +kernel
theorem dJ9_min_7cf53_5 : decode cJ9_min_7cf53 5 = .ok (.iload_n 0, 1) := by decide +kernel
theorem dJ9_min_7cf53_6 : decode cJ9_min_7cf53 6 = .ok (.goto 4, 3) := by decide +kernel
theorem dJ9_min_7cf53_9 : decode cJ9_min_7cf53 9 = .ok (.iload_n 1, 1) := by decide +kernel
theorem dJ9_min_7cf53_10 : decode cJ9_min_7cf53 10 = .ok (.ireturn, 1) := by decide +kernel
theorem dJxa1e45_init_da8c8_0 : decode cJxa1e45_init_da8c8 0 = .ok (.aload_n 0, 1) := by decide +kernel
theorem dJxa1e45_init_da8c8_1 : decode cJxa1e45_init_da8c8 1 = .ok (.invokespecial 1, 3) := by decide +kernel
theorem dJxa1e45_init_da8c8_4 : decode cJxa1e45_init_da8c8 4 = .ok (.return_, 1) := by decide +kernel
theorem dJxc12de_init_da8c8_0 : decode cJxc12de_init_da8c8 0 = .ok (.aload_n 0, 1) := by decide +kernel
theorem dJxc12de_init_da8c8_1 : decode cJxc12de_init_da8c8 1 = .ok (.invokespecial 1, 3) := by decide +kernel
theorem dJxc12de_init_da8c8_4 : decode cJxc12de_init_da8c8 4 = .ok (.aload_n 0, 1) := by decide +kernel
theorem dJxc12de_init_da8c8_5 : decode cJxc12de_init_da8c8 5 = .ok (.iconst 0, 1) := by decide +kernel
theorem dJxc12de_init_da8c8_6 : decode cJxc12de_init_da8c8 6 = .ok (.putfield 7, 3) := by decide +kernel
theorem dJxc12de_init_da8c8_9 : decode cJxc12de_init_da8c8 9 = .ok (.return_, 1) := by decide +kernel
theorem dJx35411_init_45d68_0 : decode cJx35411_init_45d68 0 = .ok (.aload_n 0, 1) := by decide +kernel
theorem dJx35411_init_45d68_1 : decode cJx35411_init_45d68 1 = .ok (.aload_n 1, 1) := by decide +kernel
theorem dJx35411_init_45d68_2 : decode cJx35411_init_45d68 2 = .ok (.putfield 1, 3) := by decide +kernel
theorem dJx35411_init_45d68_5 : decode cJx35411_init_45d68 5 = .ok (.aload_n 0, 1) := by decide +kernel
theorem dJx35411_init_45d68_6 : decode cJx35411_init_45d68 6 = .ok (.invokespecial 7, 3) := by decide +kernel
theorem dJx35411_init_45d68_9 : decode cJx35411_init_45d68 9 = .ok (.aload_n 0, 1) := by decide +kernel
theorem dJx35411_init_45d68_10 : decode cJx35411_init_45d68 10 = .ok (.iconst (-1), 1) := by decide +kernel
theorem dJx35411_init_45d68_11 : decode cJx35411_init_45d68 11 = .ok (.putfield 13, 3) := by decide +kernel
theorem dJx35411_init_45d68_14 : decode cJx35411_init_45d68 14 = .ok (.aload_n 0, 1) := by decide +kernel
theorem dJx35411_init_45d68_15 : decode cJx35411_init_45d68 15 = .ok (.aload_n 0, 1) := by decide +kernel
theorem dJx35411_init_45d68_16 : decode cJx35411_init_45d68 16 = .ok (.getfield 1, 3) := by decide +kernel
theorem dJx35411_init_45d68_19 : decode cJx35411_init_45d68 19 = .ok (.getfield 17, 3) := by decide +kernel
theorem dJx35411_init_45d68_22 : decode cJx35411_init_45d68 22 = .ok (.putfield 22, 3) := by decide +kernel
theorem dJx35411_init_45d68_25 : decode cJx35411_init_45d68 25 = .ok (.return_, 1) := by decide +kernel
theorem dJx35411_hasNext_aae02_0 : decode cJx35411_hasNext_aae02 0 = .ok (.aload_n 0, 1) := by decide +kernel
theorem dJx35411_hasNext_aae02_1 : decode cJx35411_hasNext_aae02 1 = .ok (.getfield 25, 3) := by decide +kernel
theorem dJx35411_hasNext_aae02_4 : decode cJx35411_hasNext_aae02 4 = .ok (.aload_n 0, 1) := by decide +kernel
theorem dJx35411_hasNext_aae02_5 : decode cJx35411_hasNext_aae02 5 = .ok (.getfield 1, 3) := by decide +kernel
theorem dJx35411_hasNext_aae02_8 : decode cJx35411_hasNext_aae02 8 = .ok (.getfield 28, 3) := by decide +kernel
theorem dJx35411_hasNext_aae02_11 : decode cJx35411_hasNext_aae02 11 = .ok (.if_icmp .eq 7, 3) := by decide +kernel
theorem dJx35411_hasNext_aae02_14 : decode cJx35411_hasNext_aae02 14 = .ok (.iconst 1, 1) := by decide +kernel
theorem dJx35411_hasNext_aae02_15 : decode cJx35411_hasNext_aae02 15 = .ok (.goto 4, 3) := by decide +kernel
theorem dJx35411_hasNext_aae02_18 : decode cJx35411_hasNext_aae02 18 = .ok (.iconst 0, 1) := by decide +kernel
theorem dJx35411_hasNext_aae02_19 : decode cJx35411_hasNext_aae02 19 = .ok (.ireturn, 1) := by decide +kernel
theorem dJx35411_next_0502b_0 : decode cJx35411_next_0502b 0 = .ok (.aload_n 0, 1) := by decide +kernel
theorem dJx35411_next_0502b_1 : decode cJx35411_next_0502b 1 = .ok (.invokevirtual 31, 3) := by decide +kernel
theorem dJx35411_next_0502b_4 : decode cJx35411_next_0502b 4 = .ok (.aload_n 0, 1) := by decide +kernel
theorem dJx35411_next_0502b_5 : decode cJx35411_next_0502b 5 = .ok (.getfield 25, 3) := by decide +kernel
theorem dJx35411_next_0502b_8 : decode cJx35411_next_0502b 8 = .ok (.istore_n 1, 1) := by decide +kernel
theorem dJx35411_next_0502b_9 : decode cJx35411_next_0502b 9 = .ok (.iload_n 1, 1) := by decide +kernel
theorem dJx35411_next_0502b_10 : decode cJx35411_next_0502b 10 = .ok (.aload_n 0, 1) := by decide +kernel
theorem dJx35411_next_0502b_11 : decode cJx35411_next_0502b 11 = .ok (.getfield 1, 3) := by decide +kernel
theorem dJx35411_next_0502b_14 : decode cJx35411_next_0502b 14 = .ok (.getfield 28, 3) := by decide +kernel
theorem dJx35411_next_0502b_17 : decode cJx35411_next_0502b 17 = .ok (.if_icmp .lt 11, 3) := by decide +kernel
theorem dJx35411_next_0502b_20 : decode cJx35411_next_0502b 20 = .ok (.new 34, 3) := by decide +kernel
theorem dJx35411_next_0502b_23 : decode cJx35411_next_0502b 23 = .ok (.dup, 1) := by decide +kernel
theorem dJx35411_next_0502b_24 : decode cJx35411_next_0502b 24 = .ok (.invokespecial 36, 3) := by decide +kernel
theorem dJx35411_next_0502b_27 : decode cJx35411_next_0502b 27 = .ok (.athrow, 1) := by decide +kernel
theorem dJx35411_next_0502b_28 : decode cJx35411_next_0502b 28 = .ok (.aload_n 0, 1) := by decide +kernel
theorem dJx35411_next_0502b_29 : decode cJx35411_next_0502b 29 = .ok (.getfield 1, 3) := by decide +kernel
theorem dJx35411_next_0502b_32 : decode cJx35411_next_0502b 32 = .ok (.getfield 37, 3) := by decide +kernel
theorem dJx35411_next_0502b_35 : decode cJx35411_next_0502b 35 = .ok (.astore_n 2, 1) := by decide +kernel
theorem dJx35411_next_0502b_36 : decode cJx35411_next_0502b 36 = .ok (.iload_n 1, 1) := by decide +kernel
theorem dJx35411_next_0502b_37 : decode cJx35411_next_0502b 37 = .ok (.aload_n 2, 1) := by decide +kernel
theorem dJx35411_next_0502b_38 : decode cJx35411_next_0502b 38 = .ok (.arraylength, 1) := by decide +kernel
theorem dJx35411_next_0502b_39 : decode cJx35411_next_0502b 39 = .ok (.if_icmp .lt 11, 3) := by decide +kernel
theorem dJx35411_next_0502b_42 : decode cJx35411_next_0502b 42 = .ok (.new 41, 3) := by decide +kernel
theorem dJx35411_next_0502b_45 : decode cJx35411_next_0502b 45 = .ok (.dup, 1) := by decide +kernel
theorem dJx35411_next_0502b_46 : decode cJx35411_next_0502b 46 = .ok (.invokespecial 43, 3) := by decide +kernel
theorem dJx35411_next_0502b_49 : decode cJx35411_next_0502b 49 = .ok (.athrow, 1) := by decide +kernel
theorem dJx35411_next_0502b_50 : decode cJx35411_next_0502b 50 = .ok (.aload_n 0, 1) := by decide +kernel
theorem dJx35411_next_0502b_51 : decode cJx35411_next_0502b 51 = .ok (.iload_n 1, 1) := by decide +kernel
theorem dJx35411_next_0502b_52 : decode cJx35411_next_0502b 52 = .ok (.iconst 1, 1) := by decide +kernel
theorem dJx35411_next_0502b_53 : decode cJx35411_next_0502b 53 = .ok (.iadd, 1) := by decide +kernel
theorem dJx35411_next_0502b_54 : decode cJx35411_next_0502b 54 = .ok (.putfield 25, 3) := by decide +kernel
theorem dJx35411_next_0502b_57 : decode cJx35411_next_0502b 57 = .ok (.aload_n 2, 1) := by decide +kernel
theorem dJx35411_next_0502b_58 : decode cJx35411_next_0502b 58 = .ok (.aload_n 0, 1) := by decide +kernel
theorem dJx35411_next_0502b_59 : decode cJx35411_next_0502b 59 = .ok (.iload_n 1, 1) := by decide +kernel
theorem dJx35411_next_0502b_60 : decode cJx35411_next_0502b 60 = .ok (.dup_x1, 1) := by decide +kernel
theorem dJx35411_next_0502b_61 : decode cJx35411_next_0502b 61 = .ok (.putfield 13, 3) := by decide +kernel
theorem dJx35411_next_0502b_64 : decode cJx35411_next_0502b 64 = .ok (.aaload, 1) := by decide +kernel
theorem dJx35411_next_0502b_65 : decode cJx35411_next_0502b 65 = .ok (.areturn, 1) := by decide +kernel
theorem dJx35411_checkForComodification_da8c8_0 : decode cJx35411_checkForComodification_da8c8 0 = .ok (.aload_n 0, 1) := by decide +kernel
theorem dJx35411_checkForComodification_da8c8_1 : decode cJx35411_checkForComodification_da8c8 1 = .ok (.getfield 1, 3) := by decide +kernel
theorem dJx35411_checkForComodification_da8c8_4 : decode cJx35411_checkForComodification_da8c8 4 = .ok (.getfield 17, 3) := by decide +kernel
theorem dJx35411_checkForComodification_da8c8_7 : decode cJx35411_checkForComodification_da8c8 7 = .ok (.aload_n 0, 1) := by decide +kernel
theorem dJx35411_checkForComodification_da8c8_8 : decode cJx35411_checkForComodification_da8c8 8 = .ok (.getfield 22, 3) := by decide +kernel
theorem dJx35411_checkForComodification_da8c8_11 : decode cJx35411_checkForComodification_da8c8 11 = .ok (.if_icmp .eq 11, 3) := by decide +kernel
theorem dJx35411_checkForComodification_da8c8_14 : decode cJx35411_checkForComodification_da8c8 14 = .ok (.new 41, 3) := by decide +kernel
theorem dJx35411_checkForComodification_da8c8_17 : decode cJx35411_checkForComodification_da8c8 17 = .ok (.dup, 1) := by decide +kernel
theorem dJx35411_checkForComodification_da8c8_18 : decode cJx35411_checkForComodification_da8c8 18 = .ok (.invokespecial 43, 3) := by decide +kernel
theorem dJx35411_checkForComodification_da8c8_21 : decode cJx35411_checkForComodification_da8c8 21 = .ok (.athrow, 1) := by decide +kernel
theorem dJx35411_checkForComodification_da8c8_22 : decode cJx35411_checkForComodification_da8c8 22 = .ok (.return_, 1) := by decide +kernel
theorem dJx4a65c_init_da8c8_0 : decode cJx4a65c_init_da8c8 0 = .ok (.aload_n 0, 1) := by decide +kernel
theorem dJx4a65c_init_da8c8_1 : decode cJx4a65c_init_da8c8 1 = .ok (.invokespecial 1, 3) := by decide +kernel
theorem dJx4a65c_init_da8c8_4 : decode cJx4a65c_init_da8c8 4 = .ok (.aload_n 0, 1) := by decide +kernel
theorem dJx4a65c_init_da8c8_5 : decode cJx4a65c_init_da8c8 5 = .ok (.getstatic 39, 3) := by decide +kernel
theorem dJx4a65c_init_da8c8_8 : decode cJx4a65c_init_da8c8 8 = .ok (.putfield 9, 3) := by decide +kernel
theorem dJx4a65c_init_da8c8_11 : decode cJx4a65c_init_da8c8 11 = .ok (.return_, 1) := by decide +kernel
theorem dJx4a65c_grow_92f84_0 : decode cJx4a65c_grow_92f84 0 = .ok (.aload_n 0, 1) := by decide +kernel
theorem dJx4a65c_grow_92f84_1 : decode cJx4a65c_grow_92f84 1 = .ok (.getfield 9, 3) := by decide +kernel
theorem dJx4a65c_grow_92f84_4 : decode cJx4a65c_grow_92f84 4 = .ok (.arraylength, 1) := by decide +kernel
theorem dJx4a65c_grow_92f84_5 : decode cJx4a65c_grow_92f84 5 = .ok (.istore_n 2, 1) := by decide +kernel
theorem dJx4a65c_grow_92f84_6 : decode cJx4a65c_grow_92f84 6 = .ok (.iload_n 2, 1) := by decide +kernel
theorem dJx4a65c_grow_92f84_7 : decode cJx4a65c_grow_92f84 7 = .ok (.ifCond .gt 13, 3) := by decide +kernel
theorem dJx4a65c_grow_92f84_10 : decode cJx4a65c_grow_92f84 10 = .ok (.aload_n 0, 1) := by decide +kernel
theorem dJx4a65c_grow_92f84_11 : decode cJx4a65c_grow_92f84 11 = .ok (.getfield 9, 3) := by decide +kernel
theorem dJx4a65c_grow_92f84_14 : decode cJx4a65c_grow_92f84 14 = .ok (.getstatic 39, 3) := by decide +kernel
theorem dJx4a65c_grow_92f84_17 : decode cJx4a65c_grow_92f84 17 = .ok (.if_acmp .eq 28, 3) := by decide +kernel
theorem dJx4a65c_grow_92f84_20 : decode cJx4a65c_grow_92f84 20 = .ok (.iload_n 2, 1) := by decide +kernel
theorem dJx4a65c_grow_92f84_21 : decode cJx4a65c_grow_92f84 21 = .ok (.iload_n 1, 1) := by decide +kernel
theorem dJx4a65c_grow_92f84_22 : decode cJx4a65c_grow_92f84 22 = .ok (.iload_n 2, 1) := by decide +kernel
theorem dJx4a65c_grow_92f84_23 : decode cJx4a65c_grow_92f84 23 = .ok (.isub, 1) := by decide +kernel
theorem dJx4a65c_grow_92f84_24 : decode cJx4a65c_grow_92f84 24 = .ok (.iload_n 2, 1) := by decide +kernel
theorem dJx4a65c_grow_92f84_25 : decode cJx4a65c_grow_92f84 25 = .ok (.iconst 1, 1) := by decide +kernel
theorem dJx4a65c_grow_92f84_26 : decode cJx4a65c_grow_92f84 26 = .ok (.ishr, 1) := by decide +kernel
theorem dJx4a65c_grow_92f84_27 : decode cJx4a65c_grow_92f84 27 = .ok (.invokestatic 73, 3) := by decide +kernel
theorem dJx4a65c_grow_92f84_30 : decode cJx4a65c_grow_92f84 30 = .ok (.istore_n 3, 1) := by decide +kernel
theorem dJx4a65c_grow_92f84_31 : decode cJx4a65c_grow_92f84 31 = .ok (.aload_n 0, 1) := by decide +kernel
theorem dJx4a65c_grow_92f84_32 : decode cJx4a65c_grow_92f84 32 = .ok (.aload_n 0, 1) := by decide +kernel
theorem dJx4a65c_grow_92f84_33 : decode cJx4a65c_grow_92f84 33 = .ok (.getfield 9, 3) := by decide +kernel
theorem dJx4a65c_grow_92f84_36 : decode cJx4a65c_grow_92f84 36 = .ok (.iload_n 3, 1) := by decide +kernel
theorem dJx4a65c_grow_92f84_37 : decode cJx4a65c_grow_92f84 37 = .ok (.invokestatic 66, 3) := by decide +kernel
theorem dJx4a65c_grow_92f84_40 : decode cJx4a65c_grow_92f84 40 = .ok (.dup_x1, 1) := by decide +kernel
theorem dJx4a65c_grow_92f84_41 : decode cJx4a65c_grow_92f84 41 = .ok (.putfield 9, 3) := by decide +kernel
theorem dJx4a65c_grow_92f84_44 : decode cJx4a65c_grow_92f84 44 = .ok (.areturn, 1) := by decide +kernel
theorem dJx4a65c_grow_92f84_45 : decode cJx4a65c_grow_92f84 45 = .ok (.aload_n 0, 1) := by decide +kernel
theorem dJx4a65c_grow_92f84_46 : decode cJx4a65c_grow_92f84 46 = .ok (.bipush 10, 2) := by decide +kernel
theorem dJx4a65c_grow_92f84_48 : decode cJx4a65c_grow_92f84 48 = .ok (.iload_n 1, 1) := by decide +kernel
theorem dJx4a65c_grow_92f84_49 : decode cJx4a65c_grow_92f84 49 = .ok (.invokestatic 79, 3) := by decide +kernel
theorem dJx4a65c_grow_92f84_52 : decode cJx4a65c_grow_92f84 52 = .ok (.anewarray 7, 3) := by decide +kernel
theorem dJx4a65c_grow_92f84_55 : decode cJx4a65c_grow_92f84 55 = .ok (.dup_x1, 1) := by decide +kernel
theorem dJx4a65c_grow_92f84_56 : decode cJx4a65c_grow_92f84 56 = .ok (.putfield 9, 3) := by decide +kernel
theorem dJx4a65c_grow_92f84_59 : decode cJx4a65c_grow_92f84 59 = .ok (.areturn, 1) := by decide +kernel
theorem dJx4a65c_grow_d5877_0 : decode cJx4a65c_grow_d5877 0 = .ok (.aload_n 0, 1) := by decide +kernel
theorem dJx4a65c_grow_d5877_1 : decode cJx4a65c_grow_d5877 1 = .ok (.aload_n 0, 1) := by decide +kernel
theorem dJx4a65c_grow_d5877_2 : decode cJx4a65c_grow_d5877 2 = .ok (.getfield 48, 3) := by decide +kernel
theorem dJx4a65c_grow_d5877_5 : decode cJx4a65c_grow_d5877 5 = .ok (.iconst 1, 1) := by decide +kernel
theorem dJx4a65c_grow_d5877_6 : decode cJx4a65c_grow_d5877 6 = .ok (.iadd, 1) := by decide +kernel
theorem dJx4a65c_grow_d5877_7 : decode cJx4a65c_grow_d5877 7 = .ok (.invokevirtual 69, 3) := by decide +kernel
theorem dJx4a65c_grow_d5877_10 : decode cJx4a65c_grow_d5877 10 = .ok (.areturn, 1) := by decide +kernel
theorem dJx4a65c_size_8abf5_0 : decode cJx4a65c_size_8abf5 0 = .ok (.aload_n 0, 1) := by decide +kernel
theorem dJx4a65c_size_8abf5_1 : decode cJx4a65c_size_8abf5 1 = .ok (.getfield 48, 3) := by decide +kernel
theorem dJx4a65c_size_8abf5_4 : decode cJx4a65c_size_8abf5 4 = .ok (.ireturn, 1) := by decide +kernel
theorem dJx4a65c_elementData_915e3_0 : decode cJx4a65c_elementData_915e3 0 = .ok (.aload_n 0, 1) := by decide +kernel
theorem dJx4a65c_elementData_915e3_1 : decode cJx4a65c_elementData_915e3 1 = .ok (.getfield 9, 3) := by decide +kernel
theorem dJx4a65c_elementData_915e3_4 : decode cJx4a65c_elementData_915e3 4 = .ok (.iload_n 1, 1) := by decide +kernel
theorem dJx4a65c_elementData_915e3_5 : decode cJx4a65c_elementData_915e3 5 = .ok (.aaload, 1) := by decide +kernel
theorem dJx4a65c_elementData_915e3_6 : decode cJx4a65c_elementData_915e3 6 = .ok (.areturn, 1) := by decide +kernel
theorem dJx4a65c_get_915e3_0 : decode cJx4a65c_get_915e3 0 = .ok (.iload_n 1, 1) := by decide +kernel
theorem dJx4a65c_get_915e3_1 : decode cJx4a65c_get_915e3 1 = .ok (.aload_n 0, 1) := by decide +kernel
theorem dJx4a65c_get_915e3_2 : decode cJx4a65c_get_915e3 2 = .ok (.getfield 48, 3) := by decide +kernel
theorem dJx4a65c_get_915e3_5 : decode cJx4a65c_get_915e3 5 = .ok (.invokestatic 118, 3) := by decide +kernel
theorem dJx4a65c_get_915e3_8 : decode cJx4a65c_get_915e3 8 = .ok (.pop, 1) := by decide +kernel
theorem dJx4a65c_get_915e3_9 : decode cJx4a65c_get_915e3 9 = .ok (.aload_n 0, 1) := by decide +kernel
theorem dJx4a65c_get_915e3_10 : decode cJx4a65c_get_915e3 10 = .ok (.iload_n 1, 1) := by decide +kernel
theorem dJx4a65c_get_915e3_11 : decode cJx4a65c_get_915e3 11 = .ok (.invokevirtual 123, 3) := by decide +kernel
theorem dJx4a65c_get_915e3_14 : decode cJx4a65c_get_915e3 14 = .ok (.areturn, 1) := by decide +kernel
theorem dJx4a65c_add_72be8_0 : decode cJx4a65c_add_72be8 0 = .ok (.iload_n 3, 1) := by decide +kernel
theorem dJx4a65c_add_72be8_1 : decode cJx4a65c_add_72be8 1 = .ok (.aload_n 2, 1) := by decide +kernel
theorem dJx4a65c_add_72be8_2 : decode cJx4a65c_add_72be8 2 = .ok (.arraylength, 1) := by decide +kernel
theorem dJx4a65c_add_72be8_3 : decode cJx4a65c_add_72be8 3 = .ok (.if_icmp .ne 8, 3) := by decide +kernel
theorem dJx4a65c_add_72be8_6 : decode cJx4a65c_add_72be8 6 = .ok (.aload_n 0, 1) := by decide +kernel
theorem dJx4a65c_add_72be8_7 : decode cJx4a65c_add_72be8 7 = .ok (.invokevirtual 129, 3) := by decide +kernel
theorem dJx4a65c_add_72be8_10 : decode cJx4a65c_add_72be8 10 = .ok (.astore_n 2, 1) := by decide +kernel
theorem dJx4a65c_add_72be8_11 : decode cJx4a65c_add_72be8 11 = .ok (.aload_n 2, 1) := by decide +kernel
theorem dJx4a65c_add_72be8_12 : decode cJx4a65c_add_72be8 12 = .ok (.iload_n 3, 1) := by decide +kernel
theorem dJx4a65c_add_72be8_13 : decode cJx4a65c_add_72be8 13 = .ok (.aload_n 1, 1) := by decide +kernel
theorem dJx4a65c_add_72be8_14 : decode cJx4a65c_add_72be8 14 = .ok (.aastore, 1) := by decide +kernel
theorem dJx4a65c_add_72be8_15 : decode cJx4a65c_add_72be8 15 = .ok (.aload_n 0, 1) := by decide +kernel
theorem dJx4a65c_add_72be8_16 : decode cJx4a65c_add_72be8 16 = .ok (.iload_n 3, 1) := by decide +kernel
theorem dJx4a65c_add_72be8_17 : decode cJx4a65c_add_72be8 17 = .ok (.iconst 1, 1) := by decide +kernel
theorem dJx4a65c_add_72be8_18 : decode cJx4a65c_add_72be8 18 = .ok (.iadd, 1) := by decide +kernel
theorem dJx4a65c_add_72be8_19 : decode cJx4a65c_add_72be8 19 = .ok (.putfield 48, 3) := by decide +kernel
theorem dJx4a65c_add_72be8_22 : decode cJx4a65c_add_72be8 22 = .ok (.return_, 1) := by decide +kernel
theorem dJx4a65c_add_9ea2d_0 : decode cJx4a65c_add_9ea2d 0 = .ok (.aload_n 0, 1) := by decide +kernel
theorem dJx4a65c_add_9ea2d_1 : decode cJx4a65c_add_9ea2d 1 = .ok (.dup, 1) := by decide +kernel
theorem dJx4a65c_add_9ea2d_2 : decode cJx4a65c_add_9ea2d 2 = .ok (.getfield 63, 3) := by decide +kernel
theorem dJx4a65c_add_9ea2d_5 : decode cJx4a65c_add_9ea2d 5 = .ok (.iconst 1, 1) := by decide +kernel
theorem dJx4a65c_add_9ea2d_6 : decode cJx4a65c_add_9ea2d 6 = .ok (.iadd, 1) := by decide +kernel
theorem dJx4a65c_add_9ea2d_7 : decode cJx4a65c_add_9ea2d 7 = .ok (.putfield 63, 3) := by decide +kernel
theorem dJx4a65c_add_9ea2d_10 : decode cJx4a65c_add_9ea2d 10 = .ok (.aload_n 0, 1) := by decide +kernel
theorem dJx4a65c_add_9ea2d_11 : decode cJx4a65c_add_9ea2d 11 = .ok (.aload_n 1, 1) := by decide +kernel
theorem dJx4a65c_add_9ea2d_12 : decode cJx4a65c_add_9ea2d 12 = .ok (.aload_n 0, 1) := by decide +kernel
theorem dJx4a65c_add_9ea2d_13 : decode cJx4a65c_add_9ea2d 13 = .ok (.getfield 9, 3) := by decide +kernel
theorem dJx4a65c_add_9ea2d_16 : decode cJx4a65c_add_9ea2d 16 = .ok (.aload_n 0, 1) := by decide +kernel
theorem dJx4a65c_add_9ea2d_17 : decode cJx4a65c_add_9ea2d 17 = .ok (.getfield 48, 3) := by decide +kernel
theorem dJx4a65c_add_9ea2d_20 : decode cJx4a65c_add_9ea2d 20 = .ok (.invokevirtual 131, 3) := by decide +kernel
theorem dJx4a65c_add_9ea2d_23 : decode cJx4a65c_add_9ea2d 23 = .ok (.iconst 1, 1) := by decide +kernel
theorem dJx4a65c_add_9ea2d_24 : decode cJx4a65c_add_9ea2d 24 = .ok (.ireturn, 1) := by decide +kernel
theorem dJx4a65c_iterator_32c93_0 : decode cJx4a65c_iterator_32c93 0 = .ok (.new 267, 3) := by decide +kernel
theorem dJx4a65c_iterator_32c93_3 : decode cJx4a65c_iterator_32c93 3 = .ok (.dup, 1) := by decide +kernel
theorem dJx4a65c_iterator_32c93_4 : decode cJx4a65c_iterator_32c93 4 = .ok (.aload_n 0, 1) := by decide +kernel
theorem dJx4a65c_iterator_32c93_5 : decode cJx4a65c_iterator_32c93 5 = .ok (.invokespecial 269, 3) := by decide +kernel
theorem dJx4a65c_iterator_32c93_8 : decode cJx4a65c_iterator_32c93 8 = .ok (.areturn, 1) := by decide +kernel
theorem dJ7_copyOf_1904c_0 : decode cJ7_copyOf_1904c 0 = .ok (.aload_n 0, 1) := by decide +kernel
theorem dJ7_copyOf_1904c_1 : decode cJ7_copyOf_1904c 1 = .ok (.iload_n 1, 1) := by decide +kernel
theorem dJ7_copyOf_1904c_2 : decode cJ7_copyOf_1904c 2 = .ok (.aload_n 0, 1) := by decide +kernel
theorem dJ7_copyOf_1904c_3 : decode cJ7_copyOf_1904c 3 = .ok (.invokevirtual 86, 3) := by decide +kernel
theorem dJ7_copyOf_1904c_6 : decode cJ7_copyOf_1904c 6 = .ok (.invokestatic 300, 3) := by decide +kernel
theorem dJ7_copyOf_1904c_9 : decode cJ7_copyOf_1904c 9 = .ok (.areturn, 1) := by decide +kernel
theorem dJ7_copyOf_6403c_0 : decode cJ7_copyOf_6403c 0 = .ok (.aload_n 2, 1) := by decide +kernel
theorem dJ7_copyOf_6403c_1 : decode cJ7_copyOf_6403c 1 = .ok (.ldc 110, 2) := by decide +kernel
theorem dJ7_copyOf_6403c_3 : decode cJ7_copyOf_6403c 3 = .ok (.if_acmp .ne 10, 3) := by decide +kernel
theorem dJ7_copyOf_6403c_6 : decode cJ7_copyOf_6403c 6 = .ok (.iload_n 1, 1) := by decide +kernel
theorem dJ7_copyOf_6403c_7 : decode cJ7_copyOf_6403c 7 = .ok (.anewarray 2, 3) := by decide +kernel
theorem dJ7_copyOf_6403c_10 : decode cJ7_copyOf_6403c 10 = .ok (.goto 14, 3) := by decide +kernel
theorem dJ7_copyOf_6403c_13 : decode cJ7_copyOf_6403c 13 = .ok (.aload_n 2, 1) := by decide +kernel
theorem dJ7_copyOf_6403c_14 : decode cJ7_copyOf_6403c 14 = .ok (.invokevirtual 90, 3) := by decide +kernel
theorem dJ7_copyOf_6403c_17 : decode cJ7_copyOf_6403c 17 = .ok (.iload_n 1, 1) := by decide +kernel
theorem dJ7_copyOf_6403c_18 : decode cJ7_copyOf_6403c 18 = .ok (.invokestatic 95, 3) := by decide +kernel
theorem dJ7_copyOf_6403c_21 : decode cJ7_copyOf_6403c 21 = .ok (.checkcast 110, 3) := by decide +kernel
theorem dJ7_copyOf_6403c_24 : decode cJ7_copyOf_6403c 24 = .ok (.astore_n 3, 1) := by decide +kernel
theorem dJ7_copyOf_6403c_25 : decode cJ7_copyOf_6403c 25 = .ok (.aload_n 0, 1) := by decide +kernel
theorem dJ7_copyOf_6403c_26 : decode cJ7_copyOf_6403c 26 = .ok (.iconst 0, 1) := by decide +kernel
theorem dJ7_copyOf_6403c_27 : decode cJ7_copyOf_6403c 27 = .ok (.aload_n 3, 1) := by decide +kernel
theorem dJ7_copyOf_6403c_28 : decode cJ7_copyOf_6403c 28 = .ok (.iconst 0, 1) := by decide +kernel
theorem dJ7_copyOf_6403c_29 : decode cJ7_copyOf_6403c 29 = .ok (.aload_n 0, 1) := by decide +kernel
theorem dJ7_copyOf_6403c_30 : decode cJ7_copyOf_6403c 30 = .ok (.arraylength, 1) := by decide +kernel
theorem dJ7_copyOf_6403c_31 : decode cJ7_copyOf_6403c 31 = .ok (.iload_n 1, 1) := by decide +kernel
theorem dJ7_copyOf_6403c_32 : decode cJ7_copyOf_6403c 32 = .ok (.invokestatic 304, 3) := by decide +kernel
theorem dJ7_copyOf_6403c_35 : decode cJ7_copyOf_6403c 35 = .ok (.invokestatic 150, 3) := by decide +kernel
theorem dJ7_copyOf_6403c_38 : decode cJ7_copyOf_6403c 38 = .ok (.aload_n 3, 1) := by decide +kernel
theorem dJ7_copyOf_6403c_39 : decode cJ7_copyOf_6403c 39 = .ok (.areturn, 1) := by decide +kernel
theorem dJ15_checkIndex_7cf53_0 : decode cJ15_checkIndex_7cf53 0 = .ok (.iload_n 0, 1) := by decide +kernel
theorem dJ15_checkIndex_7cf53_1 : decode cJ15_checkIndex_7cf53 1 = .ok (.iload_n 1, 1) := by decide +kernel
theorem dJ15_checkIndex_7cf53_2 : decode cJ15_checkIndex_7cf53 2 = .ok (.aconst_null, 1) := by decide +kernel
theorem dJ15_checkIndex_7cf53_3 : decode cJ15_checkIndex_7cf53 3 = .ok (.invokestatic 105, 3) := by decide +kernel
theorem dJ15_checkIndex_7cf53_6 : decode cJ15_checkIndex_7cf53 6 = .ok (.ireturn, 1) := by decide +kernel
theorem dJ8_newLength_cabcc_0 : decode cJ8_newLength_cabcc 0 = .ok (.iload_n 0, 1) := by decide +kernel
theorem dJ8_newLength_cabcc_1 : decode cJ8_newLength_cabcc 1 = .ok (.iload_n 1, 1) := by decide +kernel
theorem dJ8_newLength_cabcc_2 : decode cJ8_newLength_cabcc 2 = .ok (.iload_n 2, 1) := by decide +kernel
theorem dJ8_newLength_cabcc_3 : decode cJ8_newLength_cabcc 3 = .ok (.invokestatic 194, 3) := by decide +kernel
theorem dJ8_newLength_cabcc_6 : decode cJ8_newLength_cabcc 6 = .ok (.iadd, 1) := by decide +kernel
theorem dJ8_newLength_cabcc_7 : decode cJ8_newLength_cabcc 7 = .ok (.istore_n 3, 1) := by decide +kernel
theorem dJ8_newLength_cabcc_8 : decode cJ8_newLength_cabcc 8 = .ok (.iconst 0, 1) := by decide +kernel
theorem dJ8_newLength_cabcc_9 : decode cJ8_newLength_cabcc 9 = .ok (.iload_n 3, 1) := by decide +kernel
theorem dJ8_newLength_cabcc_10 : decode cJ8_newLength_cabcc 10 = .ok (.if_icmp .ge 11, 3) := by decide +kernel
theorem dJ8_newLength_cabcc_13 : decode cJ8_newLength_cabcc 13 = .ok (.iload_n 3, 1) := by decide +kernel
theorem dJ8_newLength_cabcc_14 : decode cJ8_newLength_cabcc 14 = .ok (.ldc 200, 2) := by decide +kernel
theorem dJ8_newLength_cabcc_16 : decode cJ8_newLength_cabcc 16 = .ok (.if_icmp .gt 5, 3) := by decide +kernel
theorem dJ8_newLength_cabcc_19 : decode cJ8_newLength_cabcc 19 = .ok (.iload_n 3, 1) := by decide +kernel
theorem dJ8_newLength_cabcc_20 : decode cJ8_newLength_cabcc 20 = .ok (.ireturn, 1) := by decide +kernel
theorem dJ8_newLength_cabcc_21 : decode cJ8_newLength_cabcc 21 = .ok (.iload_n 0, 1) := by decide +kernel
theorem dJ8_newLength_cabcc_22 : decode cJ8_newLength_cabcc 22 = .ok (.iload_n 1, 1) := by decide +kernel
theorem dJ8_newLength_cabcc_23 : decode cJ8_newLength_cabcc 23 = .ok (.invokestatic 201, 3) := by decide +kernel
theorem dJ8_newLength_cabcc_26 : decode cJ8_newLength_cabcc 26 = .ok (.ireturn, 1) := by decide +kernel
theorem dJ8_hugeLength_7cf53_0 : decode cJ8_hugeLength_7cf53 0 = .ok (.iload_n 0, 1) := by decide +kernel
theorem dJ8_hugeLength_7cf53_1 : decode cJ8_hugeLength_7cf53 1 = .ok (.iload_n 1, 1) := by decide +kernel
theorem dJ8_hugeLength_7cf53_2 : decode cJ8_hugeLength_7cf53 2 = .ok (.iadd, 1) := by decide +kernel
theorem dJ8_hugeLength_7cf53_3 : decode cJ8_hugeLength_7cf53 3 = .ok (.istore_n 2, 1) := by decide +kernel
theorem dJ8_hugeLength_7cf53_4 : decode cJ8_hugeLength_7cf53 4 = .ok (.iload_n 2, 1) := by decide +kernel
theorem dJ8_hugeLength_7cf53_5 : decode cJ8_hugeLength_7cf53 5 = .ok (.ifCond .ge 44, 3) := by decide +kernel
theorem dJ8_hugeLength_7cf53_8 : decode cJ8_hugeLength_7cf53 8 = .ok (.new 204, 3) := by decide +kernel
theorem dJ8_hugeLength_7cf53_11 : decode cJ8_hugeLength_7cf53 11 = .ok (.dup, 1) := by decide +kernel
theorem dJ8_hugeLength_7cf53_12 : decode cJ8_hugeLength_7cf53 12 = .ok (.new 89, 3) := by decide +kernel
theorem dJ8_hugeLength_7cf53_15 : decode cJ8_hugeLength_7cf53 15 = .ok (.dup, 1) := by decide +kernel
theorem dJ8_hugeLength_7cf53_16 : decode cJ8_hugeLength_7cf53 16 = .ok (.invokespecial 91, 3) := by decide +kernel
theorem dJ8_hugeLength_7cf53_19 : decode cJ8_hugeLength_7cf53 19 = .ok (.ldc 206, 2) := by decide +kernel
theorem dJ8_hugeLength_7cf53_21 : decode cJ8_hugeLength_7cf53 21 = .ok (.invokevirtual 94, 3) := by decide +kernel
theorem dJ8_hugeLength_7cf53_24 : decode cJ8_hugeLength_7cf53 24 = .ok (.iload_n 0, 1) := by decide +kernel
theorem dJ8_hugeLength_7cf53_25 : decode cJ8_hugeLength_7cf53 25 = .ok (.invokevirtual 98, 3) := by decide +kernel
theorem dJ8_hugeLength_7cf53_28 : decode cJ8_hugeLength_7cf53 28 = .ok (.ldc 208, 2) := by decide +kernel
theorem dJ8_hugeLength_7cf53_30 : decode cJ8_hugeLength_7cf53 30 = .ok (.invokevirtual 94, 3) := by decide +kernel
theorem dJ8_hugeLength_7cf53_33 : decode cJ8_hugeLength_7cf53 33 = .ok (.iload_n 1, 1) := by decide +kernel
theorem dJ8_hugeLength_7cf53_34 : decode cJ8_hugeLength_7cf53 34 = .ok (.invokevirtual 98, 3) := by decide +kernel
theorem dJ8_hugeLength_7cf53_37 : decode cJ8_hugeLength_7cf53 37 = .ok (.ldc 210, 2) := by decide +kernel
theorem dJ8_hugeLength_7cf53_39 : decode cJ8_hugeLength_7cf53 39 = .ok (.invokevirtual 94, 3) := by decide +kernel
theorem dJ8_hugeLength_7cf53_42 : decode cJ8_hugeLength_7cf53 42 = .ok (.invokevirtual 101, 3) := by decide +kernel
theorem dJ8_hugeLength_7cf53_45 : decode cJ8_hugeLength_7cf53 45 = .ok (.invokespecial 212, 3) := by decide +kernel
theorem dJ8_hugeLength_7cf53_48 : decode cJ8_hugeLength_7cf53 48 = .ok (.athrow, 1) := by decide +kernel
theorem dJ8_hugeLength_7cf53_49 : decode cJ8_hugeLength_7cf53 49 = .ok (.iload_n 2, 1) := by decide +kernel
theorem dJ8_hugeLength_7cf53_50 : decode cJ8_hugeLength_7cf53 50 = .ok (.ldc 200, 2) := by decide +kernel
theorem dJ8_hugeLength_7cf53_52 : decode cJ8_hugeLength_7cf53 52 = .ok (.if_icmp .gt 6, 3) := by decide +kernel
theorem dJ8_hugeLength_7cf53_55 : decode cJ8_hugeLength_7cf53 55 = .ok (.ldc 200, 2) := by decide +kernel
theorem dJ8_hugeLength_7cf53_57 : decode cJ8_hugeLength_7cf53 57 = .ok (.ireturn, 1) := by decide +kernel
theorem dJ8_hugeLength_7cf53_58 : decode cJ8_hugeLength_7cf53 58 = .ok (.iload_n 2, 1) := by decide +kernel
theorem dJ8_hugeLength_7cf53_59 : decode cJ8_hugeLength_7cf53 59 = .ok (.ireturn, 1) := by decide +kernel
theorem dJ3_checkIndex_8e157_0 : decode cJ3_checkIndex_8e157 0 = .ok (.iload_n 0, 1) := by decide +kernel
theorem dJ3_checkIndex_8e157_1 : decode cJ3_checkIndex_8e157 1 = .ok (.ifCond .lt 8, 3) := by decide +kernel
theorem dJ3_checkIndex_8e157_4 : decode cJ3_checkIndex_8e157 4 = .ok (.iload_n 0, 1) := by decide +kernel
theorem dJ3_checkIndex_8e157_5 : decode cJ3_checkIndex_8e157 5 = .ok (.iload_n 1, 1) := by decide +kernel
theorem dJ3_checkIndex_8e157_6 : decode cJ3_checkIndex_8e157 6 = .ok (.if_icmp .lt 10, 3) := by decide +kernel
theorem dJ3_checkIndex_8e157_9 : decode cJ3_checkIndex_8e157 9 = .ok (.aload_n 2, 1) := by decide +kernel
theorem dJ3_checkIndex_8e157_10 : decode cJ3_checkIndex_8e157 10 = .ok (.iload_n 0, 1) := by decide +kernel
theorem dJ3_checkIndex_8e157_11 : decode cJ3_checkIndex_8e157 11 = .ok (.iload_n 1, 1) := by decide +kernel
theorem dJ3_checkIndex_8e157_12 : decode cJ3_checkIndex_8e157 12 = .ok (.invokestatic 95, 3) := by decide +kernel
theorem dJ3_checkIndex_8e157_15 : decode cJ3_checkIndex_8e157 15 = .ok (.athrow, 1) := by decide +kernel
theorem dJ3_checkIndex_8e157_16 : decode cJ3_checkIndex_8e157 16 = .ok (.iload_n 0, 1) := by decide +kernel
theorem dJ3_checkIndex_8e157_17 : decode cJ3_checkIndex_8e157 17 = .ok (.ireturn, 1) := by decide +kernel
theorem dL_curve_0 : decode cL_curve 0 = .ok (.aload_n 3, 1) := by decide +kernel
theorem dL_curve_1 : decode cL_curve 1 = .ok (.iconst 0, 1) := by decide +kernel
theorem dL_curve_2 : decode cL_curve 2 = .ok (.aload_n 0, 1) := by decide +kernel
theorem dL_curve_3 : decode cL_curve 3 = .ok (.iload_n 1, 1) := by decide +kernel
theorem dL_curve_4 : decode cL_curve 4 = .ok (.iload_n 2, 1) := by decide +kernel
theorem dL_curve_5 : decode cL_curve 5 = .ok (.invokevirtual 7, 3) := by decide +kernel
theorem dL_curve_8 : decode cL_curve 8 = .ok (.ifCond .eq 7, 3) := by decide +kernel
theorem dL_curve_11 : decode cL_curve 11 = .ok (.lconst 1, 1) := by decide +kernel
theorem dL_curve_12 : decode cL_curve 12 = .ok (.goto 4, 3) := by decide +kernel
theorem dL_curve_15 : decode cL_curve 15 = .ok (.lconst 0, 1) := by decide +kernel
theorem dL_curve_16 : decode cL_curve 16 = .ok (.lastore, 1) := by decide +kernel
theorem dL_curve_17 : decode cL_curve 17 = .ok (.goto 7, 3) := by decide +kernel
theorem dL_curve_20 : decode cL_curve 20 = .ok (.astore 4, 2) := by decide +kernel
theorem dL_curve_22 : decode cL_curve 22 = .ok (.iconst 1, 1) := by decide +kernel
theorem dL_curve_23 : decode cL_curve 23 = .ok (.ireturn, 1) := by decide +kernel
theorem dL_curve_24 : decode cL_curve 24 = .ok (.iconst 0, 1) := by decide +kernel
theorem dL_curve_25 : decode cL_curve 25 = .ok (.ireturn, 1) := by decide +kernel
theorem dL_sign_0 : decode cL_sign 0 = .ok (.aload_n 3, 1) := by decide +kernel
theorem dL_sign_1 : decode cL_sign 1 = .ok (.iconst 0, 1) := by decide +kernel
theorem dL_sign_2 : decode cL_sign 2 = .ok (.aload_n 0, 1) := by decide +kernel
theorem dL_sign_3 : decode cL_sign 3 = .ok (.iload_n 1, 1) := by decide +kernel
theorem dL_sign_4 : decode cL_sign 4 = .ok (.iload_n 2, 1) := by decide +kernel
theorem dL_sign_5 : decode cL_sign 5 = .ok (.invokevirtual 15, 3) := by decide +kernel
theorem dL_sign_8 : decode cL_sign 8 = .ok (.i2l, 1) := by decide +kernel
theorem dL_sign_9 : decode cL_sign 9 = .ok (.lastore, 1) := by decide +kernel
theorem dL_sign_10 : decode cL_sign 10 = .ok (.goto 11, 3) := by decide +kernel
theorem dL_sign_13 : decode cL_sign 13 = .ok (.astore 4, 2) := by decide +kernel
theorem dL_sign_15 : decode cL_sign 15 = .ok (.iconst 1, 1) := by decide +kernel
theorem dL_sign_16 : decode cL_sign 16 = .ok (.ireturn, 1) := by decide +kernel
theorem dL_sign_17 : decode cL_sign 17 = .ok (.astore 4, 2) := by decide +kernel
theorem dL_sign_19 : decode cL_sign 19 = .ok (.iconst 2, 1) := by decide +kernel
theorem dL_sign_20 : decode cL_sign 20 = .ok (.ireturn, 1) := by decide +kernel
theorem dL_sign_21 : decode cL_sign 21 = .ok (.iconst 0, 1) := by decide +kernel
theorem dL_sign_22 : decode cL_sign 22 = .ok (.ireturn, 1) := by decide +kernel
theorem dL_pass_0 : decode cL_pass 0 = .ok (.aload 4, 2) := by decide +kernel
theorem dL_pass_2 : decode cL_pass 2 = .ok (.iconst 0, 1) := by decide +kernel
theorem dL_pass_3 : decode cL_pass 3 = .ok (.aload_n 0, 1) := by decide +kernel
theorem dL_pass_4 : decode cL_pass 4 = .ok (.iload_n 1, 1) := by decide +kernel
theorem dL_pass_5 : decode cL_pass 5 = .ok (.iload_n 2, 1) := by decide +kernel
theorem dL_pass_6 : decode cL_pass 6 = .ok (.iload_n 3, 1) := by decide +kernel
theorem dL_pass_7 : decode cL_pass 7 = .ok (.invokevirtual 21, 3) := by decide +kernel
theorem dL_pass_10 : decode cL_pass 10 = .ok (.i2l, 1) := by decide +kernel
theorem dL_pass_11 : decode cL_pass 11 = .ok (.lastore, 1) := by decide +kernel
theorem dL_pass_12 : decode cL_pass 12 = .ok (.goto 11, 3) := by decide +kernel
theorem dL_pass_15 : decode cL_pass 15 = .ok (.astore 5, 2) := by decide +kernel
theorem dL_pass_17 : decode cL_pass 17 = .ok (.iconst 1, 1) := by decide +kernel
theorem dL_pass_18 : decode cL_pass 18 = .ok (.ireturn, 1) := by decide +kernel
theorem dL_pass_19 : decode cL_pass 19 = .ok (.astore 5, 2) := by decide +kernel
theorem dL_pass_21 : decode cL_pass 21 = .ok (.iconst 2, 1) := by decide +kernel
theorem dL_pass_22 : decode cL_pass 22 = .ok (.ireturn, 1) := by decide +kernel
theorem dL_pass_23 : decode cL_pass 23 = .ok (.iconst 0, 1) := by decide +kernel
theorem dL_pass_24 : decode cL_pass 24 = .ok (.ireturn, 1) := by decide +kernel
theorem dL_measure_0 : decode cL_measure 0 = .ok (.aload 5, 2) := by decide +kernel
theorem dL_measure_2 : decode cL_measure 2 = .ok (.iconst 0, 1) := by decide +kernel
theorem dL_measure_3 : decode cL_measure 3 = .ok (.aload_n 0, 1) := by decide +kernel
theorem dL_measure_4 : decode cL_measure 4 = .ok (.iload_n 1, 1) := by decide +kernel
theorem dL_measure_5 : decode cL_measure 5 = .ok (.iload_n 2, 1) := by decide +kernel
theorem dL_measure_6 : decode cL_measure 6 = .ok (.iload_n 3, 1) := by decide +kernel
theorem dL_measure_7 : decode cL_measure 7 = .ok (.iload 4, 2) := by decide +kernel
theorem dL_measure_9 : decode cL_measure 9 = .ok (.invokevirtual 27, 3) := by decide +kernel
theorem dL_measure_12 : decode cL_measure 12 = .ok (.i2l, 1) := by decide +kernel
theorem dL_measure_13 : decode cL_measure 13 = .ok (.lastore, 1) := by decide +kernel
theorem dL_measure_14 : decode cL_measure 14 = .ok (.goto 15, 3) := by decide +kernel
theorem dL_measure_17 : decode cL_measure 17 = .ok (.astore 6, 2) := by decide +kernel
theorem dL_measure_19 : decode cL_measure 19 = .ok (.iconst 1, 1) := by decide +kernel
theorem dL_measure_20 : decode cL_measure 20 = .ok (.ireturn, 1) := by decide +kernel
theorem dL_measure_21 : decode cL_measure 21 = .ok (.astore 6, 2) := by decide +kernel
theorem dL_measure_23 : decode cL_measure 23 = .ok (.iconst 2, 1) := by decide +kernel
theorem dL_measure_24 : decode cL_measure 24 = .ok (.ireturn, 1) := by decide +kernel
theorem dL_measure_25 : decode cL_measure 25 = .ok (.astore 6, 2) := by decide +kernel
theorem dL_measure_27 : decode cL_measure 27 = .ok (.iconst 3, 1) := by decide +kernel
theorem dL_measure_28 : decode cL_measure 28 = .ok (.ireturn, 1) := by decide +kernel
theorem dL_measure_29 : decode cL_measure 29 = .ok (.iconst 0, 1) := by decide +kernel
theorem dL_measure_30 : decode cL_measure 30 = .ok (.ireturn, 1) := by decide +kernel
theorem dL_align_0 : decode cL_align 0 = .ok (.aload_n 2, 1) := by decide +kernel
theorem dL_align_1 : decode cL_align 1 = .ok (.iconst 0, 1) := by decide +kernel
theorem dL_align_2 : decode cL_align 2 = .ok (.aload_n 0, 1) := by decide +kernel
theorem dL_align_3 : decode cL_align 3 = .ok (.iload_n 1, 1) := by decide +kernel
theorem dL_align_4 : decode cL_align 4 = .ok (.invokevirtual 31, 3) := by decide +kernel
theorem dL_align_7 : decode cL_align 7 = .ok (.i2l, 1) := by decide +kernel
theorem dL_align_8 : decode cL_align 8 = .ok (.lastore, 1) := by decide +kernel
theorem dL_align_9 : decode cL_align 9 = .ok (.goto 9, 3) := by decide +kernel
theorem dL_align_12 : decode cL_align 12 = .ok (.astore_n 3, 1) := by decide +kernel
theorem dL_align_13 : decode cL_align 13 = .ok (.iconst 1, 1) := by decide +kernel
theorem dL_align_14 : decode cL_align 14 = .ok (.ireturn, 1) := by decide +kernel
theorem dL_align_15 : decode cL_align 15 = .ok (.astore_n 3, 1) := by decide +kernel
theorem dL_align_16 : decode cL_align 16 = .ok (.iconst 2, 1) := by decide +kernel
theorem dL_align_17 : decode cL_align 17 = .ok (.ireturn, 1) := by decide +kernel
theorem dL_align_18 : decode cL_align 18 = .ok (.iconst 0, 1) := by decide +kernel
theorem dL_align_19 : decode cL_align 19 = .ok (.ireturn, 1) := by decide +kernel
theorem dL_machine_0 : decode cL_machine 0 = .ok (.aload_n 3, 1) := by decide +kernel
theorem dL_machine_1 : decode cL_machine 1 = .ok (.iconst 0, 1) := by decide +kernel
theorem dL_machine_2 : decode cL_machine 2 = .ok (.aload_n 0, 1) := by decide +kernel
theorem dL_machine_3 : decode cL_machine 3 = .ok (.iload_n 1, 1) := by decide +kernel
theorem dL_machine_4 : decode cL_machine 4 = .ok (.iload_n 2, 1) := by decide +kernel
theorem dL_machine_5 : decode cL_machine 5 = .ok (.invokevirtual 35, 3) := by decide +kernel
theorem dL_machine_8 : decode cL_machine 8 = .ok (.i2l, 1) := by decide +kernel
theorem dL_machine_9 : decode cL_machine 9 = .ok (.lastore, 1) := by decide +kernel
theorem dL_machine_10 : decode cL_machine 10 = .ok (.goto 11, 3) := by decide +kernel
theorem dL_machine_13 : decode cL_machine 13 = .ok (.astore 4, 2) := by decide +kernel
theorem dL_machine_15 : decode cL_machine 15 = .ok (.iconst 1, 1) := by decide +kernel
theorem dL_machine_16 : decode cL_machine 16 = .ok (.ireturn, 1) := by decide +kernel
theorem dL_machine_17 : decode cL_machine 17 = .ok (.astore 4, 2) := by decide +kernel
theorem dL_machine_19 : decode cL_machine 19 = .ok (.iconst 2, 1) := by decide +kernel
theorem dL_machine_20 : decode cL_machine 20 = .ok (.ireturn, 1) := by decide +kernel
theorem dL_machine_21 : decode cL_machine 21 = .ok (.iconst 0, 1) := by decide +kernel
theorem dL_machine_22 : decode cL_machine 22 = .ok (.ireturn, 1) := by decide +kernel
theorem dL_service_0 : decode cL_service 0 = .ok (.aload_n 2, 1) := by decide +kernel
theorem dL_service_1 : decode cL_service 1 = .ok (.iconst 0, 1) := by decide +kernel
theorem dL_service_2 : decode cL_service 2 = .ok (.aload_n 0, 1) := by decide +kernel
theorem dL_service_3 : decode cL_service 3 = .ok (.iload_n 1, 1) := by decide +kernel
theorem dL_service_4 : decode cL_service 4 = .ok (.invokevirtual 38, 3) := by decide +kernel
theorem dL_service_7 : decode cL_service 7 = .ok (.i2l, 1) := by decide +kernel
theorem dL_service_8 : decode cL_service 8 = .ok (.lastore, 1) := by decide +kernel
theorem dL_service_9 : decode cL_service 9 = .ok (.goto 9, 3) := by decide +kernel
theorem dL_service_12 : decode cL_service 12 = .ok (.astore_n 3, 1) := by decide +kernel
theorem dL_service_13 : decode cL_service 13 = .ok (.iconst 1, 1) := by decide +kernel
theorem dL_service_14 : decode cL_service 14 = .ok (.ireturn, 1) := by decide +kernel
theorem dL_service_15 : decode cL_service 15 = .ok (.astore_n 3, 1) := by decide +kernel
theorem dL_service_16 : decode cL_service 16 = .ok (.iconst 2, 1) := by decide +kernel
theorem dL_service_17 : decode cL_service 17 = .ok (.ireturn, 1) := by decide +kernel
theorem dL_service_18 : decode cL_service 18 = .ok (.iconst 0, 1) := by decide +kernel
theorem dL_service_19 : decode cL_service 19 = .ok (.ireturn, 1) := by decide +kernel
theorem dL_book_0 : decode cL_book 0 = .ok (.aload 6, 2) := by decide +kernel
theorem dL_book_2 : decode cL_book 2 = .ok (.iconst 0, 1) := by decide +kernel
theorem dL_book_3 : decode cL_book 3 = .ok (.aload_n 0, 1) := by decide +kernel
theorem dL_book_4 : decode cL_book 4 = .ok (.iload_n 1, 1) := by decide +kernel
theorem dL_book_5 : decode cL_book 5 = .ok (.iload_n 2, 1) := by decide +kernel
theorem dL_book_6 : decode cL_book 6 = .ok (.iload_n 3, 1) := by decide +kernel
theorem dL_book_7 : decode cL_book 7 = .ok (.iload 4, 2) := by decide +kernel
theorem dL_book_9 : decode cL_book 9 = .ok (.iload 5, 2) := by decide +kernel
theorem dL_book_11 : decode cL_book 11 = .ok (.invokevirtual 41, 3) := by decide +kernel
theorem dL_book_14 : decode cL_book 14 = .ok (.i2l, 1) := by decide +kernel
theorem dL_book_15 : decode cL_book 15 = .ok (.lastore, 1) := by decide +kernel
theorem dL_book_16 : decode cL_book 16 = .ok (.goto 15, 3) := by decide +kernel
theorem dL_book_19 : decode cL_book 19 = .ok (.astore 7, 2) := by decide +kernel
theorem dL_book_21 : decode cL_book 21 = .ok (.iconst 1, 1) := by decide +kernel
theorem dL_book_22 : decode cL_book 22 = .ok (.ireturn, 1) := by decide +kernel
theorem dL_book_23 : decode cL_book 23 = .ok (.astore 7, 2) := by decide +kernel
theorem dL_book_25 : decode cL_book 25 = .ok (.iconst 2, 1) := by decide +kernel
theorem dL_book_26 : decode cL_book 26 = .ok (.ireturn, 1) := by decide +kernel
theorem dL_book_27 : decode cL_book 27 = .ok (.astore 7, 2) := by decide +kernel
theorem dL_book_29 : decode cL_book 29 = .ok (.iconst 3, 1) := by decide +kernel
theorem dL_book_30 : decode cL_book 30 = .ok (.ireturn, 1) := by decide +kernel
theorem dL_book_31 : decode cL_book 31 = .ok (.iconst 0, 1) := by decide +kernel
theorem dL_book_32 : decode cL_book 32 = .ok (.ireturn, 1) := by decide +kernel
theorem dL_work_0 : decode cL_work 0 = .ok (.aload 4, 2) := by decide +kernel
theorem dL_work_2 : decode cL_work 2 = .ok (.iconst 0, 1) := by decide +kernel
theorem dL_work_3 : decode cL_work 3 = .ok (.aload_n 0, 1) := by decide +kernel
theorem dL_work_4 : decode cL_work 4 = .ok (.iload_n 1, 1) := by decide +kernel
theorem dL_work_5 : decode cL_work 5 = .ok (.iload_n 2, 1) := by decide +kernel
