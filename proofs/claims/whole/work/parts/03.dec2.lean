theorem dX7_knownBy_88 : decode cX7_knownBy 88 = .ok (.iconst (-1), 1) := by decide +kernel
theorem dX7_knownBy_89 : decode cX7_knownBy 89 = .ok (.ireturn, 1) := by decide +kernel
theorem dX7_isSection_0 : decode cX7_isSection 0 = .ok (.iload_n 0, 1) := by decide +kernel
theorem dX7_isSection_1 : decode cX7_isSection 1 = .ok (.iconst 0, 1) := by decide +kernel
theorem dX7_isSection_2 : decode cX7_isSection 2 = .ok (.bipush 19, 2) := by decide +kernel
theorem dX7_isSection_4 : decode cX7_isSection 4 = .ok (.invokestatic 68, 3) := by decide +kernel
theorem dX7_isSection_7 : decode cX7_isSection 7 = .ok (.ireturn, 1) := by decide +kernel
theorem dX7_curve_0 : decode cX7_curve 0 = .ok (.aload_n 0, 1) := by decide +kernel
theorem dX7_curve_1 : decode cX7_curve 1 = .ok (.iload_n 1, 1) := by decide +kernel
theorem dX7_curve_2 : decode cX7_curve 2 = .ok (.invokestatic 72, 3) := by decide +kernel
theorem dX7_curve_5 : decode cX7_curve 5 = .ok (.ifCond .eq 7, 3) := by decide +kernel
theorem dX7_curve_8 : decode cX7_curve 8 = .ok (.iconst 0, 1) := by decide +kernel
theorem dX7_curve_9 : decode cX7_curve 9 = .ok (.goto 4, 3) := by decide +kernel
theorem dX7_curve_12 : decode cX7_curve 12 = .ok (.iconst 1, 1) := by decide +kernel
theorem dX7_curve_13 : decode cX7_curve 13 = .ok (.putfield 31, 3) := by decide +kernel
theorem dX7_curve_16 : decode cX7_curve 16 = .ok (.aload_n 0, 1) := by decide +kernel
theorem dX7_curve_17 : decode cX7_curve 17 = .ok (.getfield 31, 3) := by decide +kernel
theorem dX7_curve_20 : decode cX7_curve 20 = .ok (.ifCond .le 5, 3) := by decide +kernel
theorem dX7_curve_23 : decode cX7_curve 23 = .ok (.iconst 0, 1) := by decide +kernel
theorem dX7_curve_24 : decode cX7_curve 24 = .ok (.ireturn, 1) := by decide +kernel
theorem dX7_curve_25 : decode cX7_curve 25 = .ok (.aload_n 0, 1) := by decide +kernel
theorem dX7_curve_26 : decode cX7_curve 26 = .ok (.getfield 11, 3) := by decide +kernel
theorem dX7_curve_29 : decode cX7_curve 29 = .ok (.iload_n 1, 1) := by decide +kernel
theorem dX7_curve_30 : decode cX7_curve 30 = .ok (.aaload, 1) := by decide +kernel
theorem dX7_curve_31 : decode cX7_curve 31 = .ok (.iconst 5, 1) := by decide +kernel
theorem dX7_curve_32 : decode cX7_curve 32 = .ok (.iaload, 1) := by decide +kernel
theorem dX7_curve_33 : decode cX7_curve 33 = .ok (.iconst 1, 1) := by decide +kernel
theorem dX7_curve_34 : decode cX7_curve 34 = .ok (.if_icmp .ne 7, 3) := by decide +kernel
theorem dX7_curve_37 : decode cX7_curve 37 = .ok (.iconst 1, 1) := by decide +kernel
theorem dX7_curve_38 : decode cX7_curve 38 = .ok (.goto 4, 3) := by decide +kernel
theorem dX7_curve_41 : decode cX7_curve 41 = .ok (.iconst 0, 1) := by decide +kernel
theorem dX7_curve_42 : decode cX7_curve 42 = .ok (.istore_n 3, 1) := by decide +kernel
theorem dX7_curve_43 : decode cX7_curve 43 = .ok (.aload_n 0, 1) := by decide +kernel
theorem dX7_curve_44 : decode cX7_curve 44 = .ok (.getfield 11, 3) := by decide +kernel
theorem dX7_curve_47 : decode cX7_curve 47 = .ok (.iload_n 1, 1) := by decide +kernel
theorem dX7_curve_48 : decode cX7_curve 48 = .ok (.aaload, 1) := by decide +kernel
theorem dX7_curve_49 : decode cX7_curve 49 = .ok (.iconst 5, 1) := by decide +kernel
theorem dX7_curve_50 : decode cX7_curve 50 = .ok (.iload_n 2, 1) := by decide +kernel
theorem dX7_curve_51 : decode cX7_curve 51 = .ok (.ifCond .eq 7, 3) := by decide +kernel
theorem dX7_curve_54 : decode cX7_curve 54 = .ok (.iconst 1, 1) := by decide +kernel
theorem dX7_curve_55 : decode cX7_curve 55 = .ok (.goto 4, 3) := by decide +kernel
theorem dX7_curve_58 : decode cX7_curve 58 = .ok (.iconst 0, 1) := by decide +kernel
theorem dX7_curve_59 : decode cX7_curve 59 = .ok (.iastore, 1) := by decide +kernel
theorem dX7_curve_60 : decode cX7_curve 60 = .ok (.iload_n 3, 1) := by decide +kernel
theorem dX7_curve_61 : decode cX7_curve 61 = .ok (.ireturn, 1) := by decide +kernel
theorem dX7_sign_0 : decode cX7_sign 0 = .ok (.aload_n 0, 1) := by decide +kernel
theorem dX7_sign_1 : decode cX7_sign 1 = .ok (.iconst 0, 1) := by decide +kernel
theorem dX7_sign_2 : decode cX7_sign 2 = .ok (.putfield 31, 3) := by decide +kernel
theorem dX7_sign_5 : decode cX7_sign 5 = .ok (.iload_n 1, 1) := by decide +kernel
theorem dX7_sign_6 : decode cX7_sign 6 = .ok (.invokestatic 72, 3) := by decide +kernel
theorem dX7_sign_9 : decode cX7_sign 9 = .ok (.ifCond .ne 9, 3) := by decide +kernel
theorem dX7_sign_12 : decode cX7_sign 12 = .ok (.aload_n 0, 1) := by decide +kernel
theorem dX7_sign_13 : decode cX7_sign 13 = .ok (.iconst 1, 1) := by decide +kernel
theorem dX7_sign_14 : decode cX7_sign 14 = .ok (.invokevirtual 76, 3) := by decide +kernel
theorem dX7_sign_17 : decode cX7_sign 17 = .ok (.ireturn, 1) := by decide +kernel
theorem dX7_sign_18 : decode cX7_sign 18 = .ok (.iload_n 2, 1) := by decide +kernel
theorem dX7_sign_19 : decode cX7_sign 19 = .ok (.iconst 0, 1) := by decide +kernel
theorem dX7_sign_20 : decode cX7_sign 20 = .ok (.sipush 160, 3) := by decide +kernel
theorem dX7_sign_23 : decode cX7_sign 23 = .ok (.invokestatic 68, 3) := by decide +kernel
theorem dX7_sign_26 : decode cX7_sign 26 = .ok (.ifCond .ne 9, 3) := by decide +kernel
theorem dX7_sign_29 : decode cX7_sign 29 = .ok (.aload_n 0, 1) := by decide +kernel
theorem dX7_sign_30 : decode cX7_sign 30 = .ok (.iconst 2, 1) := by decide +kernel
theorem dX7_sign_31 : decode cX7_sign 31 = .ok (.invokevirtual 76, 3) := by decide +kernel
theorem dX7_sign_34 : decode cX7_sign 34 = .ok (.ireturn, 1) := by decide +kernel
theorem dX7_sign_35 : decode cX7_sign 35 = .ok (.aload_n 0, 1) := by decide +kernel
theorem dX7_sign_36 : decode cX7_sign 36 = .ok (.getfield 11, 3) := by decide +kernel
theorem dX7_sign_39 : decode cX7_sign 39 = .ok (.iload_n 1, 1) := by decide +kernel
theorem dX7_sign_40 : decode cX7_sign 40 = .ok (.aaload, 1) := by decide +kernel
theorem dX7_sign_41 : decode cX7_sign 41 = .ok (.bipush 6, 2) := by decide +kernel
theorem dX7_sign_43 : decode cX7_sign 43 = .ok (.iaload, 1) := by decide +kernel
theorem dX7_sign_44 : decode cX7_sign 44 = .ok (.istore_n 3, 1) := by decide +kernel
theorem dX7_sign_45 : decode cX7_sign 45 = .ok (.aload_n 0, 1) := by decide +kernel
theorem dX7_sign_46 : decode cX7_sign 46 = .ok (.getfield 11, 3) := by decide +kernel
theorem dX7_sign_49 : decode cX7_sign 49 = .ok (.iload_n 1, 1) := by decide +kernel
theorem dX7_sign_50 : decode cX7_sign 50 = .ok (.aaload, 1) := by decide +kernel
theorem dX7_sign_51 : decode cX7_sign 51 = .ok (.bipush 6, 2) := by decide +kernel
theorem dX7_sign_53 : decode cX7_sign 53 = .ok (.iload_n 2, 1) := by decide +kernel
theorem dX7_sign_54 : decode cX7_sign 54 = .ok (.iastore, 1) := by decide +kernel
theorem dX7_sign_55 : decode cX7_sign 55 = .ok (.iload_n 3, 1) := by decide +kernel
theorem dX7_sign_56 : decode cX7_sign 56 = .ok (.ireturn, 1) := by decide +kernel
theorem dX7_age_0 : decode cX7_age 0 = .ok (.aload_n 0, 1) := by decide +kernel
theorem dX7_age_1 : decode cX7_age 1 = .ok (.iconst 0, 1) := by decide +kernel
theorem dX7_age_2 : decode cX7_age 2 = .ok (.bipush 100, 2) := by decide +kernel
theorem dX7_age_4 : decode cX7_age 4 = .ok (.aload_n 0, 1) := by decide +kernel
theorem dX7_age_5 : decode cX7_age 5 = .ok (.iconst 0, 1) := by decide +kernel
theorem dX7_age_6 : decode cX7_age 6 = .ok (.iaload, 1) := by decide +kernel
theorem dX7_age_7 : decode cX7_age 7 = .ok (.iload_n 1, 1) := by decide +kernel
theorem dX7_age_8 : decode cX7_age 8 = .ok (.aload_n 0, 1) := by decide +kernel
theorem dX7_age_9 : decode cX7_age 9 = .ok (.iconst 5, 1) := by decide +kernel
theorem dX7_age_10 : decode cX7_age 10 = .ok (.iaload, 1) := by decide +kernel
theorem dX7_age_11 : decode cX7_age 11 = .ok (.iconst 1, 1) := by decide +kernel
theorem dX7_age_12 : decode cX7_age 12 = .ok (.if_icmp .ne 7, 3) := by decide +kernel
theorem dX7_age_15 : decode cX7_age 15 = .ok (.iconst 4, 1) := by decide +kernel
theorem dX7_age_16 : decode cX7_age 16 = .ok (.goto 5, 3) := by decide +kernel
theorem dX7_age_19 : decode cX7_age 19 = .ok (.bipush 8, 2) := by decide +kernel
theorem dX7_age_21 : decode cX7_age 21 = .ok (.idiv, 1) := by decide +kernel
theorem dX7_age_22 : decode cX7_age 22 = .ok (.iadd, 1) := by decide +kernel
theorem dX7_age_23 : decode cX7_age 23 = .ok (.invokestatic 38, 3) := by decide +kernel
theorem dX7_age_26 : decode cX7_age 26 = .ok (.iastore, 1) := by decide +kernel
theorem dX7_age_27 : decode cX7_age 27 = .ok (.aload_n 0, 1) := by decide +kernel
theorem dX7_age_28 : decode cX7_age 28 = .ok (.iconst 1, 1) := by decide +kernel
theorem dX7_age_29 : decode cX7_age 29 = .ok (.iaload, 1) := by decide +kernel
theorem dX7_age_30 : decode cX7_age 30 = .ok (.ifCond .le 26, 3) := by decide +kernel
theorem dX7_age_33 : decode cX7_age 33 = .ok (.aload_n 0, 1) := by decide +kernel
theorem dX7_age_34 : decode cX7_age 34 = .ok (.iconst 1, 1) := by decide +kernel
theorem dX7_age_35 : decode cX7_age 35 = .ok (.bipush 60, 2) := by decide +kernel
theorem dX7_age_37 : decode cX7_age 37 = .ok (.aload_n 0, 1) := by decide +kernel
theorem dX7_age_38 : decode cX7_age 38 = .ok (.iconst 1, 1) := by decide +kernel
theorem dX7_age_39 : decode cX7_age 39 = .ok (.iaload, 1) := by decide +kernel
theorem dX7_age_40 : decode cX7_age 40 = .ok (.iconst 1, 1) := by decide +kernel
theorem dX7_age_41 : decode cX7_age 41 = .ok (.iadd, 1) := by decide +kernel
theorem dX7_age_42 : decode cX7_age 42 = .ok (.aload_n 0, 1) := by decide +kernel
theorem dX7_age_43 : decode cX7_age 43 = .ok (.iconst 1, 1) := by decide +kernel
theorem dX7_age_44 : decode cX7_age 44 = .ok (.iaload, 1) := by decide +kernel
theorem dX7_age_45 : decode cX7_age 45 = .ok (.bipush 8, 2) := by decide +kernel
theorem dX7_age_47 : decode cX7_age 47 = .ok (.idiv, 1) := by decide +kernel
theorem dX7_age_48 : decode cX7_age 48 = .ok (.iadd, 1) := by decide +kernel
theorem dX7_age_49 : decode cX7_age 49 = .ok (.invokestatic 38, 3) := by decide +kernel
theorem dX7_age_52 : decode cX7_age 52 = .ok (.iastore, 1) := by decide +kernel
theorem dX7_age_53 : decode cX7_age 53 = .ok (.goto 15, 3) := by decide +kernel
theorem dX7_age_56 : decode cX7_age 56 = .ok (.aload_n 0, 1) := by decide +kernel
theorem dX7_age_57 : decode cX7_age 57 = .ok (.iconst 0, 1) := by decide +kernel
theorem dX7_age_58 : decode cX7_age 58 = .ok (.iaload, 1) := by decide +kernel
theorem dX7_age_59 : decode cX7_age 59 = .ok (.bipush 50, 2) := by decide +kernel
theorem dX7_age_61 : decode cX7_age 61 = .ok (.if_icmp .lt 7, 3) := by decide +kernel
theorem dX7_age_64 : decode cX7_age 64 = .ok (.aload_n 0, 1) := by decide +kernel
theorem dX7_age_65 : decode cX7_age 65 = .ok (.iconst 1, 1) := by decide +kernel
theorem dX7_age_66 : decode cX7_age 66 = .ok (.iconst 1, 1) := by decide +kernel
theorem dX7_age_67 : decode cX7_age 67 = .ok (.iastore, 1) := by decide +kernel
theorem dX7_age_68 : decode cX7_age 68 = .ok (.aload_n 0, 1) := by decide +kernel
theorem dX7_age_69 : decode cX7_age 69 = .ok (.iconst 2, 1) := by decide +kernel
theorem dX7_age_70 : decode cX7_age 70 = .ok (.bipush 60, 2) := by decide +kernel
theorem dX7_age_72 : decode cX7_age 72 = .ok (.aload_n 0, 1) := by decide +kernel
theorem dX7_age_73 : decode cX7_age 73 = .ok (.iconst 2, 1) := by decide +kernel
theorem dX7_age_74 : decode cX7_age 74 = .ok (.iaload, 1) := by decide +kernel
theorem dX7_age_75 : decode cX7_age 75 = .ok (.iload_n 1, 1) := by decide +kernel
theorem dX7_age_76 : decode cX7_age 76 = .ok (.iconst 5, 1) := by decide +kernel
theorem dX7_age_77 : decode cX7_age 77 = .ok (.aload_n 0, 1) := by decide +kernel
theorem dX7_age_78 : decode cX7_age 78 = .ok (.iconst 3, 1) := by decide +kernel
theorem dX7_age_79 : decode cX7_age 79 = .ok (.iaload, 1) := by decide +kernel
theorem dX7_age_80 : decode cX7_age 80 = .ok (.imul, 1) := by decide +kernel
theorem dX7_age_81 : decode cX7_age 81 = .ok (.iadd, 1) := by decide +kernel
theorem dX7_age_82 : decode cX7_age 82 = .ok (.bipush 10, 2) := by decide +kernel
theorem dX7_age_84 : decode cX7_age 84 = .ok (.idiv, 1) := by decide +kernel
theorem dX7_age_85 : decode cX7_age 85 = .ok (.iadd, 1) := by decide +kernel
theorem dX7_age_86 : decode cX7_age 86 = .ok (.invokestatic 38, 3) := by decide +kernel
theorem dX7_age_89 : decode cX7_age 89 = .ok (.iastore, 1) := by decide +kernel
theorem dX7_age_90 : decode cX7_age 90 = .ok (.return_, 1) := by decide +kernel
theorem dX7_pass_0 : decode cX7_pass 0 = .ok (.aload_n 0, 1) := by decide +kernel
theorem dX7_pass_1 : decode cX7_pass 1 = .ok (.getfield 21, 3) := by decide +kernel
theorem dX7_pass_4 : decode cX7_pass 4 = .ok (.invokevirtual 79, 3) := by decide +kernel
theorem dX7_pass_7 : decode cX7_pass 7 = .ok (.astore_n 3, 1) := by decide +kernel
theorem dX7_pass_8 : decode cX7_pass 8 = .ok (.aload_n 3, 1) := by decide +kernel
theorem dX7_pass_9 : decode cX7_pass 9 = .ok (.invokeinterface 83 1, 5) := by decide +kernel
theorem dX7_pass_14 : decode cX7_pass 14 = .ok (.ifCond .eq 59, 3) := by decide +kernel
theorem dX7_pass_17 : decode cX7_pass 17 = .ok (.aload_n 3, 1) := by decide +kernel
theorem dX7_pass_18 : decode cX7_pass 18 = .ok (.invokeinterface 89 1, 5) := by decide +kernel
theorem dX7_pass_23 : decode cX7_pass 23 = .ok (.checkcast 56, 3) := by decide +kernel
theorem dX7_pass_26 : decode cX7_pass 26 = .ok (.astore 4, 2) := by decide +kernel
theorem dX7_pass_28 : decode cX7_pass 28 = .ok (.aload 4, 2) := by decide +kernel
theorem dX7_pass_30 : decode cX7_pass 30 = .ok (.iconst 4, 1) := by decide +kernel
theorem dX7_pass_31 : decode cX7_pass 31 = .ok (.iaload, 1) := by decide +kernel
theorem dX7_pass_32 : decode cX7_pass 32 = .ok (.aload_n 0, 1) := by decide +kernel
theorem dX7_pass_33 : decode cX7_pass 33 = .ok (.getfield 93, 3) := by decide +kernel
theorem dX7_pass_36 : decode cX7_pass 36 = .ok (.if_icmp .eq 6, 3) := by decide +kernel
theorem dX7_pass_39 : decode cX7_pass 39 = .ok (.goto (-31), 3) := by decide +kernel
theorem dX7_pass_42 : decode cX7_pass 42 = .ok (.aload 4, 2) := by decide +kernel
theorem dX7_pass_44 : decode cX7_pass 44 = .ok (.iconst 0, 1) := by decide +kernel
theorem dX7_pass_45 : decode cX7_pass 45 = .ok (.iaload, 1) := by decide +kernel
theorem dX7_pass_46 : decode cX7_pass 46 = .ok (.ifCond .ne 8, 3) := by decide +kernel
theorem dX7_pass_49 : decode cX7_pass 49 = .ok (.aload 4, 2) := by decide +kernel
theorem dX7_pass_51 : decode cX7_pass 51 = .ok (.iconst 0, 1) := by decide +kernel
theorem dX7_pass_52 : decode cX7_pass 52 = .ok (.iconst 3, 1) := by decide +kernel
theorem dX7_pass_53 : decode cX7_pass 53 = .ok (.iastore, 1) := by decide +kernel
theorem dX7_pass_54 : decode cX7_pass 54 = .ok (.aload 4, 2) := by decide +kernel
theorem dX7_pass_56 : decode cX7_pass 56 = .ok (.iconst 0, 1) := by decide +kernel
theorem dX7_pass_57 : decode cX7_pass 57 = .ok (.iaload, 1) := by decide +kernel
theorem dX7_pass_58 : decode cX7_pass 58 = .ok (.iconst 1, 1) := by decide +kernel
theorem dX7_pass_59 : decode cX7_pass 59 = .ok (.if_icmp .ne 11, 3) := by decide +kernel
theorem dX7_pass_62 : decode cX7_pass 62 = .ok (.aload_n 0, 1) := by decide +kernel
theorem dX7_pass_63 : decode cX7_pass 63 = .ok (.aload 4, 2) := by decide +kernel
theorem dX7_pass_65 : decode cX7_pass 65 = .ok (.iconst 2, 1) := by decide +kernel
theorem dX7_pass_66 : decode cX7_pass 66 = .ok (.invokevirtual 96, 3) := by decide +kernel
theorem dX7_pass_69 : decode cX7_pass 69 = .ok (.pop, 1) := by decide +kernel
theorem dX7_pass_70 : decode cX7_pass 70 = .ok (.goto (-62), 3) := by decide +kernel
theorem dX7_pass_73 : decode cX7_pass 73 = .ok (.aload_n 0, 1) := by decide +kernel
theorem dX7_pass_74 : decode cX7_pass 74 = .ok (.dup, 1) := by decide +kernel
theorem dX7_pass_75 : decode cX7_pass 75 = .ok (.getfield 93, 3) := by decide +kernel
theorem dX7_pass_78 : decode cX7_pass 78 = .ok (.iconst 1, 1) := by decide +kernel
theorem dX7_pass_79 : decode cX7_pass 79 = .ok (.iadd, 1) := by decide +kernel
theorem dX7_pass_80 : decode cX7_pass 80 = .ok (.putfield 93, 3) := by decide +kernel
theorem dX7_pass_83 : decode cX7_pass 83 = .ok (.aload_n 0, 1) := by decide +kernel
theorem dX7_pass_84 : decode cX7_pass 84 = .ok (.iload_n 2, 1) := by decide +kernel
theorem dX7_pass_85 : decode cX7_pass 85 = .ok (.putfield 27, 3) := by decide +kernel
theorem dX7_pass_88 : decode cX7_pass 88 = .ok (.aload_n 0, 1) := by decide +kernel
theorem dX7_pass_89 : decode cX7_pass 89 = .ok (.getfield 11, 3) := by decide +kernel
theorem dX7_pass_92 : decode cX7_pass 92 = .ok (.astore_n 3, 1) := by decide +kernel
theorem dX7_pass_93 : decode cX7_pass 93 = .ok (.aload_n 3, 1) := by decide +kernel
theorem dX7_pass_94 : decode cX7_pass 94 = .ok (.arraylength, 1) := by decide +kernel
theorem dX7_pass_95 : decode cX7_pass 95 = .ok (.istore 4, 2) := by decide +kernel
theorem dX7_pass_97 : decode cX7_pass 97 = .ok (.iconst 0, 1) := by decide +kernel
theorem dX7_pass_98 : decode cX7_pass 98 = .ok (.istore 5, 2) := by decide +kernel
theorem dX7_pass_100 : decode cX7_pass 100 = .ok (.iload 5, 2) := by decide +kernel
theorem dX7_pass_102 : decode cX7_pass 102 = .ok (.iload 4, 2) := by decide +kernel
theorem dX7_pass_104 : decode cX7_pass 104 = .ok (.if_icmp .ge 44, 3) := by decide +kernel
theorem dX7_pass_107 : decode cX7_pass 107 = .ok (.aload_n 3, 1) := by decide +kernel
theorem dX7_pass_108 : decode cX7_pass 108 = .ok (.iload 5, 2) := by decide +kernel
theorem dX7_pass_110 : decode cX7_pass 110 = .ok (.aaload, 1) := by decide +kernel
theorem dX7_pass_111 : decode cX7_pass 111 = .ok (.astore 6, 2) := by decide +kernel
theorem dX7_pass_113 : decode cX7_pass 113 = .ok (.aload 6, 2) := by decide +kernel
theorem dX7_pass_115 : decode cX7_pass 115 = .ok (.iload_n 1, 1) := by decide +kernel
theorem dX7_pass_116 : decode cX7_pass 116 = .ok (.invokestatic 99, 3) := by decide +kernel
theorem dX7_pass_119 : decode cX7_pass 119 = .ok (.aload_n 0, 1) := by decide +kernel
theorem dX7_pass_120 : decode cX7_pass 120 = .ok (.dup, 1) := by decide +kernel
theorem dX7_pass_121 : decode cX7_pass 121 = .ok (.getfield 103, 3) := by decide +kernel
theorem dX7_pass_124 : decode cX7_pass 124 = .ok (.iload_n 1, 1) := by decide +kernel
theorem dX7_pass_125 : decode cX7_pass 125 = .ok (.sipush 160, 3) := by decide +kernel
theorem dX7_pass_128 : decode cX7_pass 128 = .ok (.aload 6, 2) := by decide +kernel
theorem dX7_pass_130 : decode cX7_pass 130 = .ok (.bipush 6, 2) := by decide +kernel
theorem dX7_pass_132 : decode cX7_pass 132 = .ok (.iaload, 1) := by decide +kernel
theorem dX7_pass_133 : decode cX7_pass 133 = .ok (.isub, 1) := by decide +kernel
theorem dX7_pass_134 : decode cX7_pass 134 = .ok (.imul, 1) := by decide +kernel
theorem dX7_pass_135 : decode cX7_pass 135 = .ok (.bipush 80, 2) := by decide +kernel
theorem dX7_pass_137 : decode cX7_pass 137 = .ok (.idiv, 1) := by decide +kernel
theorem dX7_pass_138 : decode cX7_pass 138 = .ok (.iadd, 1) := by decide +kernel
theorem dX7_pass_139 : decode cX7_pass 139 = .ok (.putfield 103, 3) := by decide +kernel
theorem dX7_pass_142 : decode cX7_pass 142 = .ok (.iinc 5 1, 3) := by decide +kernel
theorem dX7_pass_145 : decode cX7_pass 145 = .ok (.goto (-45), 3) := by decide +kernel
theorem dX7_pass_148 : decode cX7_pass 148 = .ok (.iconst 0, 1) := by decide +kernel
theorem dX7_pass_149 : decode cX7_pass 149 = .ok (.istore_n 3, 1) := by decide +kernel
theorem dX7_pass_150 : decode cX7_pass 150 = .ok (.aload_n 0, 1) := by decide +kernel
theorem dX7_pass_151 : decode cX7_pass 151 = .ok (.getfield 11, 3) := by decide +kernel
theorem dX7_pass_154 : decode cX7_pass 154 = .ok (.astore 4, 2) := by decide +kernel
theorem dX7_pass_156 : decode cX7_pass 156 = .ok (.aload 4, 2) := by decide +kernel
theorem dX7_pass_158 : decode cX7_pass 158 = .ok (.arraylength, 1) := by decide +kernel
theorem dX7_pass_159 : decode cX7_pass 159 = .ok (.istore 5, 2) := by decide +kernel
theorem dX7_pass_161 : decode cX7_pass 161 = .ok (.iconst 0, 1) := by decide +kernel
theorem dX7_pass_162 : decode cX7_pass 162 = .ok (.istore 6, 2) := by decide +kernel
theorem dX7_pass_164 : decode cX7_pass 164 = .ok (.iload 6, 2) := by decide +kernel
theorem dX7_pass_166 : decode cX7_pass 166 = .ok (.iload 5, 2) := by decide +kernel
theorem dX7_pass_168 : decode cX7_pass 168 = .ok (.if_icmp .ge 74, 3) := by decide +kernel
theorem dX7_pass_171 : decode cX7_pass 171 = .ok (.aload 4, 2) := by decide +kernel
theorem dX7_pass_173 : decode cX7_pass 173 = .ok (.iload 6, 2) := by decide +kernel
theorem dX7_pass_175 : decode cX7_pass 175 = .ok (.aaload, 1) := by decide +kernel
theorem dX7_pass_176 : decode cX7_pass 176 = .ok (.astore 7, 2) := by decide +kernel
theorem dX7_pass_178 : decode cX7_pass 178 = .ok (.aload 7, 2) := by decide +kernel
theorem dX7_pass_180 : decode cX7_pass 180 = .ok (.iconst 1, 1) := by decide +kernel
theorem dX7_pass_181 : decode cX7_pass 181 = .ok (.iaload, 1) := by decide +kernel
theorem dX7_pass_182 : decode cX7_pass 182 = .ok (.bipush 60, 2) := by decide +kernel
theorem dX7_pass_184 : decode cX7_pass 184 = .ok (.if_icmp .ne 27, 3) := by decide +kernel
theorem dX7_pass_187 : decode cX7_pass 187 = .ok (.aload 7, 2) := by decide +kernel
theorem dX7_pass_189 : decode cX7_pass 189 = .ok (.bipush 6, 2) := by decide +kernel
theorem dX7_pass_191 : decode cX7_pass 191 = .ok (.iaload, 1) := by decide +kernel
theorem dX7_pass_192 : decode cX7_pass 192 = .ok (.ifCond .le 19, 3) := by decide +kernel
theorem dX7_pass_195 : decode cX7_pass 195 = .ok (.aload 7, 2) := by decide +kernel
theorem dX7_pass_197 : decode cX7_pass 197 = .ok (.bipush 6, 2) := by decide +kernel
theorem dX7_pass_199 : decode cX7_pass 199 = .ok (.iconst 0, 1) := by decide +kernel
theorem dX7_pass_200 : decode cX7_pass 200 = .ok (.iastore, 1) := by decide +kernel
theorem dX7_pass_201 : decode cX7_pass 201 = .ok (.aload_n 0, 1) := by decide +kernel
theorem dX7_pass_202 : decode cX7_pass 202 = .ok (.dup, 1) := by decide +kernel
theorem dX7_pass_203 : decode cX7_pass 203 = .ok (.getfield 106, 3) := by decide +kernel
theorem dX7_pass_206 : decode cX7_pass 206 = .ok (.iconst 1, 1) := by decide +kernel
theorem dX7_pass_207 : decode cX7_pass 207 = .ok (.iadd, 1) := by decide +kernel
theorem dX7_pass_208 : decode cX7_pass 208 = .ok (.putfield 106, 3) := by decide +kernel
theorem dX7_pass_211 : decode cX7_pass 211 = .ok (.iload_n 3, 1) := by decide +kernel
theorem dX7_pass_212 : decode cX7_pass 212 = .ok (.aload 7, 2) := by decide +kernel
theorem dX7_pass_214 : decode cX7_pass 214 = .ok (.bipush 6, 2) := by decide +kernel
theorem dX7_pass_216 : decode cX7_pass 216 = .ok (.iaload, 1) := by decide +kernel
theorem dX7_pass_217 : decode cX7_pass 217 = .ok (.aload 7, 2) := by decide +kernel
theorem dX7_pass_219 : decode cX7_pass 219 = .ok (.aload_n 0, 1) := by decide +kernel
theorem dX7_pass_220 : decode cX7_pass 220 = .ok (.getfield 27, 3) := by decide +kernel
theorem dX7_pass_223 : decode cX7_pass 223 = .ok (.invokestatic 44, 3) := by decide +kernel
theorem dX7_pass_226 : decode cX7_pass 226 = .ok (.if_icmp .le 7, 3) := by decide +kernel
theorem dX7_pass_229 : decode cX7_pass 229 = .ok (.iconst 1, 1) := by decide +kernel
theorem dX7_pass_230 : decode cX7_pass 230 = .ok (.goto 4, 3) := by decide +kernel
theorem dX7_pass_233 : decode cX7_pass 233 = .ok (.iconst 0, 1) := by decide +kernel
theorem dX7_pass_234 : decode cX7_pass 234 = .ok (.iadd, 1) := by decide +kernel
theorem dX7_pass_235 : decode cX7_pass 235 = .ok (.istore_n 3, 1) := by decide +kernel
theorem dX7_pass_236 : decode cX7_pass 236 = .ok (.iinc 6 1, 3) := by decide +kernel
theorem dX7_pass_239 : decode cX7_pass 239 = .ok (.goto (-75), 3) := by decide +kernel
theorem dX7_pass_242 : decode cX7_pass 242 = .ok (.aload_n 0, 1) := by decide +kernel
theorem dX7_pass_243 : decode cX7_pass 243 = .ok (.dup, 1) := by decide +kernel
theorem dX7_pass_244 : decode cX7_pass 244 = .ok (.getfield 109, 3) := by decide +kernel
theorem dX7_pass_247 : decode cX7_pass 247 = .ok (.iload_n 3, 1) := by decide +kernel
theorem dX7_pass_248 : decode cX7_pass 248 = .ok (.iadd, 1) := by decide +kernel
theorem dX7_pass_249 : decode cX7_pass 249 = .ok (.putfield 109, 3) := by decide +kernel
theorem dX7_pass_252 : decode cX7_pass 252 = .ok (.iload_n 3, 1) := by decide +kernel
theorem dX7_pass_253 : decode cX7_pass 253 = .ok (.ireturn, 1) := by decide +kernel
theorem dX7_isTrains_0 : decode cX7_isTrains 0 = .ok (.iload_n 0, 1) := by decide +kernel
theorem dX7_isTrains_1 : decode cX7_isTrains 1 = .ok (.iconst 0, 1) := by decide +kernel
theorem dX7_isTrains_2 : decode cX7_isTrains 2 = .ok (.bipush 40, 2) := by decide +kernel
theorem dX7_isTrains_4 : decode cX7_isTrains 4 = .ok (.invokestatic 68, 3) := by decide +kernel
theorem dX7_isTrains_7 : decode cX7_isTrains 7 = .ok (.ireturn, 1) := by decide +kernel
theorem dX7_pass__0 : decode cX7_pass_ 0 = .ok (.aload_n 0, 1) := by decide +kernel
theorem dX7_pass__1 : decode cX7_pass_ 1 = .ok (.iconst 0, 1) := by decide +kernel
theorem dX7_pass__2 : decode cX7_pass_ 2 = .ok (.putfield 31, 3) := by decide +kernel
theorem dX7_pass__5 : decode cX7_pass_ 5 = .ok (.iload_n 1, 1) := by decide +kernel
theorem dX7_pass__6 : decode cX7_pass_ 6 = .ok (.invokestatic 112, 3) := by decide +kernel
theorem dX7_pass__9 : decode cX7_pass_ 9 = .ok (.ifCond .eq 24, 3) := by decide +kernel
theorem dX7_pass__12 : decode cX7_pass_ 12 = .ok (.iload_n 2, 1) := by decide +kernel
theorem dX7_pass__13 : decode cX7_pass_ 13 = .ok (.bipush (-20), 2) := by decide +kernel
theorem dX7_pass__15 : decode cX7_pass_ 15 = .ok (.bipush 60, 2) := by decide +kernel
theorem dX7_pass__17 : decode cX7_pass_ 17 = .ok (.invokestatic 68, 3) := by decide +kernel
theorem dX7_pass__20 : decode cX7_pass_ 20 = .ok (.ifCond .eq 13, 3) := by decide +kernel
theorem dX7_pass__23 : decode cX7_pass_ 23 = .ok (.iload_n 3, 1) := by decide +kernel
theorem dX7_pass__24 : decode cX7_pass_ 24 = .ok (.iconst 1, 1) := by decide +kernel
theorem dX7_pass__25 : decode cX7_pass_ 25 = .ok (.bipush 60, 2) := by decide +kernel
theorem dX7_pass__27 : decode cX7_pass_ 27 = .ok (.invokestatic 68, 3) := by decide +kernel
theorem dX7_pass__30 : decode cX7_pass_ 30 = .ok (.ifCond .ne 9, 3) := by decide +kernel
theorem dX7_pass__33 : decode cX7_pass_ 33 = .ok (.aload_n 0, 1) := by decide +kernel
theorem dX7_pass__34 : decode cX7_pass_ 34 = .ok (.iconst 1, 1) := by decide +kernel
theorem dX7_pass__35 : decode cX7_pass_ 35 = .ok (.invokevirtual 76, 3) := by decide +kernel
theorem dX7_pass__38 : decode cX7_pass_ 38 = .ok (.ireturn, 1) := by decide +kernel
theorem dX7_pass__39 : decode cX7_pass_ 39 = .ok (.aload_n 0, 1) := by decide +kernel
theorem dX7_pass__40 : decode cX7_pass_ 40 = .ok (.getfield 93, 3) := by decide +kernel
theorem dX7_pass__43 : decode cX7_pass_ 43 = .ok (.iload_n 3, 1) := by decide +kernel
theorem dX7_pass__44 : decode cX7_pass_ 44 = .ok (.iadd, 1) := by decide +kernel
theorem dX7_pass__45 : decode cX7_pass_ 45 = .ok (.sipush 2000, 3) := by decide +kernel
theorem dX7_pass__48 : decode cX7_pass_ 48 = .ok (.if_icmp .le 9, 3) := by decide +kernel
theorem dX7_pass__51 : decode cX7_pass_ 51 = .ok (.aload_n 0, 1) := by decide +kernel
theorem dX7_pass__52 : decode cX7_pass_ 52 = .ok (.iconst 2, 1) := by decide +kernel
theorem dX7_pass__53 : decode cX7_pass_ 53 = .ok (.invokevirtual 76, 3) := by decide +kernel
theorem dX7_pass__56 : decode cX7_pass_ 56 = .ok (.ireturn, 1) := by decide +kernel
theorem dX7_pass__57 : decode cX7_pass_ 57 = .ok (.iconst 0, 1) := by decide +kernel
theorem dX7_pass__58 : decode cX7_pass_ 58 = .ok (.istore 4, 2) := by decide +kernel
theorem dX7_pass__60 : decode cX7_pass_ 60 = .ok (.iconst 0, 1) := by decide +kernel
theorem dX7_pass__61 : decode cX7_pass_ 61 = .ok (.istore 5, 2) := by decide +kernel
theorem dX7_pass__63 : decode cX7_pass_ 63 = .ok (.iload 5, 2) := by decide +kernel
theorem dX7_pass__65 : decode cX7_pass_ 65 = .ok (.iload_n 3, 1) := by decide +kernel
theorem dX7_pass__66 : decode cX7_pass_ 66 = .ok (.if_icmp .ge 20, 3) := by decide +kernel
theorem dX7_pass__69 : decode cX7_pass_ 69 = .ok (.iload 4, 2) := by decide +kernel
theorem dX7_pass__71 : decode cX7_pass_ 71 = .ok (.aload_n 0, 1) := by decide +kernel
theorem dX7_pass__72 : decode cX7_pass_ 72 = .ok (.iload_n 1, 1) := by decide +kernel
theorem dX7_pass__73 : decode cX7_pass_ 73 = .ok (.iload_n 2, 1) := by decide +kernel
theorem dX7_pass__74 : decode cX7_pass_ 74 = .ok (.invokevirtual 115, 3) := by decide +kernel
theorem dX7_pass__77 : decode cX7_pass_ 77 = .ok (.iadd, 1) := by decide +kernel
theorem dX7_pass__78 : decode cX7_pass_ 78 = .ok (.istore 4, 2) := by decide +kernel
theorem dX7_pass__80 : decode cX7_pass_ 80 = .ok (.iinc 5 1, 3) := by decide +kernel
theorem dX7_pass__83 : decode cX7_pass_ 83 = .ok (.goto (-20), 3) := by decide +kernel
theorem dX7_pass__86 : decode cX7_pass_ 86 = .ok (.iload 4, 2) := by decide +kernel
theorem dX7_pass__88 : decode cX7_pass_ 88 = .ok (.ireturn, 1) := by decide +kernel
theorem dX7_isPart_0 : decode cX7_isPart 0 = .ok (.iload_n 0, 1) := by decide +kernel
theorem dX7_isPart_1 : decode cX7_isPart 1 = .ok (.iconst 0, 1) := by decide +kernel
theorem dX7_isPart_2 : decode cX7_isPart 2 = .ok (.iconst 1, 1) := by decide +kernel
theorem dX7_isPart_3 : decode cX7_isPart 3 = .ok (.invokestatic 68, 3) := by decide +kernel
theorem dX7_isPart_6 : decode cX7_isPart 6 = .ok (.ifCond .eq 27, 3) := by decide +kernel
theorem dX7_isPart_9 : decode cX7_isPart 9 = .ok (.iload_n 1, 1) := by decide +kernel
theorem dX7_isPart_10 : decode cX7_isPart 10 = .ok (.iconst 0, 1) := by decide +kernel
theorem dX7_isPart_11 : decode cX7_isPart 11 = .ok (.bipush 9, 2) := by decide +kernel
theorem dX7_isPart_13 : decode cX7_isPart 13 = .ok (.invokestatic 68, 3) := by decide +kernel
theorem dX7_isPart_16 : decode cX7_isPart 16 = .ok (.ifCond .eq 17, 3) := by decide +kernel
theorem dX7_isPart_19 : decode cX7_isPart 19 = .ok (.iload_n 2, 1) := by decide +kernel
theorem dX7_isPart_20 : decode cX7_isPart 20 = .ok (.iconst 0, 1) := by decide +kernel
theorem dX7_isPart_21 : decode cX7_isPart 21 = .ok (.bipush 9, 2) := by decide +kernel
theorem dX7_isPart_23 : decode cX7_isPart 23 = .ok (.invokestatic 68, 3) := by decide +kernel
theorem dX7_isPart_26 : decode cX7_isPart 26 = .ok (.ifCond .eq 7, 3) := by decide +kernel
theorem dX7_isPart_29 : decode cX7_isPart 29 = .ok (.iconst 1, 1) := by decide +kernel
theorem dX7_isPart_30 : decode cX7_isPart 30 = .ok (.goto 4, 3) := by decide +kernel
theorem dX7_isPart_33 : decode cX7_isPart 33 = .ok (.iconst 0, 1) := by decide +kernel
theorem dX7_isPart_34 : decode cX7_isPart 34 = .ok (.ireturn, 1) := by decide +kernel
theorem dX7_measure_0 : decode cX7_measure 0 = .ok (.aload_n 0, 1) := by decide +kernel
theorem dX7_measure_1 : decode cX7_measure 1 = .ok (.iconst 0, 1) := by decide +kernel
theorem dX7_measure_2 : decode cX7_measure 2 = .ok (.putfield 31, 3) := by decide +kernel
theorem dX7_measure_5 : decode cX7_measure 5 = .ok (.iload_n 1, 1) := by decide +kernel
theorem dX7_measure_6 : decode cX7_measure 6 = .ok (.iload_n 2, 1) := by decide +kernel
theorem dX7_measure_7 : decode cX7_measure 7 = .ok (.iload_n 3, 1) := by decide +kernel
theorem dX7_measure_8 : decode cX7_measure 8 = .ok (.invokestatic 118, 3) := by decide +kernel
theorem dX7_measure_11 : decode cX7_measure 11 = .ok (.ifCond .ne 9, 3) := by decide +kernel
theorem dX7_measure_14 : decode cX7_measure 14 = .ok (.aload_n 0, 1) := by decide +kernel
theorem dX7_measure_15 : decode cX7_measure 15 = .ok (.iconst 1, 1) := by decide +kernel
theorem dX7_measure_16 : decode cX7_measure 16 = .ok (.invokevirtual 76, 3) := by decide +kernel
theorem dX7_measure_19 : decode cX7_measure 19 = .ok (.ireturn, 1) := by decide +kernel
theorem dX7_measure_20 : decode cX7_measure 20 = .ok (.iload_n 3, 1) := by decide +kernel
theorem dX7_measure_21 : decode cX7_measure 21 = .ok (.iload_n 2, 1) := by decide +kernel
theorem dX7_measure_22 : decode cX7_measure 22 = .ok (.if_icmp .lt 14, 3) := by decide +kernel
theorem dX7_measure_25 : decode cX7_measure 25 = .ok (.iload 4, 2) := by decide +kernel
theorem dX7_measure_27 : decode cX7_measure 27 = .ok (.bipush (-2), 2) := by decide +kernel
theorem dX7_measure_29 : decode cX7_measure 29 = .ok (.iconst 2, 1) := by decide +kernel
theorem dX7_measure_30 : decode cX7_measure 30 = .ok (.invokestatic 68, 3) := by decide +kernel
theorem dX7_measure_33 : decode cX7_measure 33 = .ok (.ifCond .ne 9, 3) := by decide +kernel
theorem dX7_measure_36 : decode cX7_measure 36 = .ok (.aload_n 0, 1) := by decide +kernel
theorem dX7_measure_37 : decode cX7_measure 37 = .ok (.iconst 2, 1) := by decide +kernel
theorem dX7_measure_38 : decode cX7_measure 38 = .ok (.invokevirtual 76, 3) := by decide +kernel
theorem dX7_measure_41 : decode cX7_measure 41 = .ok (.ireturn, 1) := by decide +kernel
theorem dX7_measure_42 : decode cX7_measure 42 = .ok (.aload_n 0, 1) := by decide +kernel
theorem dX7_measure_43 : decode cX7_measure 43 = .ok (.getfield 24, 3) := by decide +kernel
theorem dX7_measure_46 : decode cX7_measure 46 = .ok (.invokevirtual 64, 3) := by decide +kernel
theorem dX7_measure_49 : decode cX7_measure 49 = .ok (.bipush 12, 2) := by decide +kernel
theorem dX7_measure_51 : decode cX7_measure 51 = .ok (.if_icmp .ne 9, 3) := by decide +kernel
theorem dX7_measure_54 : decode cX7_measure 54 = .ok (.aload_n 0, 1) := by decide +kernel
theorem dX7_measure_55 : decode cX7_measure 55 = .ok (.iconst 3, 1) := by decide +kernel
theorem dX7_measure_56 : decode cX7_measure 56 = .ok (.invokevirtual 76, 3) := by decide +kernel
theorem dX7_measure_59 : decode cX7_measure 59 = .ok (.ireturn, 1) := by decide +kernel
theorem dX7_measure_60 : decode cX7_measure 60 = .ok (.bipush 45, 2) := by decide +kernel
theorem dX7_measure_62 : decode cX7_measure 62 = .ok (.newarray .int, 2) := by decide +kernel
theorem dX7_measure_64 : decode cX7_measure 64 = .ok (.astore 5, 2) := by decide +kernel
theorem dX7_measure_66 : decode cX7_measure 66 = .ok (.aload 5, 2) := by decide +kernel
theorem dX7_measure_68 : decode cX7_measure 68 = .ok (.iconst 0, 1) := by decide +kernel
theorem dX7_measure_69 : decode cX7_measure 69 = .ok (.iload_n 1, 1) := by decide +kernel
theorem dX7_measure_70 : decode cX7_measure 70 = .ok (.iastore, 1) := by decide +kernel
theorem dX7_measure_71 : decode cX7_measure 71 = .ok (.aload 5, 2) := by decide +kernel
theorem dX7_measure_73 : decode cX7_measure 73 = .ok (.iconst 1, 1) := by decide +kernel
theorem dX7_measure_74 : decode cX7_measure 74 = .ok (.iload_n 2, 1) := by decide +kernel
theorem dX7_measure_75 : decode cX7_measure 75 = .ok (.iastore, 1) := by decide +kernel
theorem dX7_measure_76 : decode cX7_measure 76 = .ok (.aload 5, 2) := by decide +kernel
theorem dX7_measure_78 : decode cX7_measure 78 = .ok (.iconst 2, 1) := by decide +kernel
theorem dX7_measure_79 : decode cX7_measure 79 = .ok (.iload_n 3, 1) := by decide +kernel
theorem dX7_measure_80 : decode cX7_measure 80 = .ok (.iastore, 1) := by decide +kernel
theorem dX7_measure_81 : decode cX7_measure 81 = .ok (.aload 5, 2) := by decide +kernel
theorem dX7_measure_83 : decode cX7_measure 83 = .ok (.iconst 3, 1) := by decide +kernel
theorem dX7_measure_84 : decode cX7_measure 84 = .ok (.iload 4, 2) := by decide +kernel
theorem dX7_measure_86 : decode cX7_measure 86 = .ok (.iastore, 1) := by decide +kernel
theorem dX7_measure_87 : decode cX7_measure 87 = .ok (.iload_n 2, 1) := by decide +kernel
theorem dX7_measure_88 : decode cX7_measure 88 = .ok (.istore 6, 2) := by decide +kernel
theorem dX7_measure_90 : decode cX7_measure 90 = .ok (.iload 6, 2) := by decide +kernel
theorem dX7_measure_92 : decode cX7_measure 92 = .ok (.iload_n 3, 1) := by decide +kernel
theorem dX7_measure_93 : decode cX7_measure 93 = .ok (.if_icmp .gt 110, 3) := by decide +kernel
theorem dX7_measure_96 : decode cX7_measure 96 = .ok (.iload 6, 2) := by decide +kernel
theorem dX7_measure_98 : decode cX7_measure 98 = .ok (.iload 4, 2) := by decide +kernel
theorem dX7_measure_100 : decode cX7_measure 100 = .ok (.iadd, 1) := by decide +kernel
theorem dX7_measure_101 : decode cX7_measure 101 = .ok (.iconst 0, 1) := by decide +kernel
theorem dX7_measure_102 : decode cX7_measure 102 = .ok (.bipush 9, 2) := by decide +kernel
theorem dX7_measure_104 : decode cX7_measure 104 = .ok (.invokestatic 68, 3) := by decide +kernel
theorem dX7_measure_107 : decode cX7_measure 107 = .ok (.ifCond .ne 6, 3) := by decide +kernel
theorem dX7_measure_110 : decode cX7_measure 110 = .ok (.goto 87, 3) := by decide +kernel
theorem dX7_measure_113 : decode cX7_measure 113 = .ok (.aload_n 0, 1) := by decide +kernel
theorem dX7_measure_114 : decode cX7_measure 114 = .ok (.getfield 11, 3) := by decide +kernel
theorem dX7_measure_117 : decode cX7_measure 117 = .ok (.bipush 10, 2) := by decide +kernel
theorem dX7_measure_119 : decode cX7_measure 119 = .ok (.iload_n 1, 1) := by decide +kernel
theorem dX7_measure_120 : decode cX7_measure 120 = .ok (.imul, 1) := by decide +kernel
theorem dX7_measure_121 : decode cX7_measure 121 = .ok (.iload 6, 2) := by decide +kernel
theorem dX7_measure_123 : decode cX7_measure 123 = .ok (.iadd, 1) := by decide +kernel
theorem dX7_measure_124 : decode cX7_measure 124 = .ok (.iload 4, 2) := by decide +kernel
theorem dX7_measure_126 : decode cX7_measure 126 = .ok (.iadd, 1) := by decide +kernel
theorem dX7_measure_127 : decode cX7_measure 127 = .ok (.aaload, 1) := by decide +kernel
theorem dX7_measure_128 : decode cX7_measure 128 = .ok (.astore 7, 2) := by decide +kernel
theorem dX7_measure_130 : decode cX7_measure 130 = .ok (.aload 5, 2) := by decide +kernel
theorem dX7_measure_132 : decode cX7_measure 132 = .ok (.iconst 5, 1) := by decide +kernel
theorem dX7_measure_133 : decode cX7_measure 133 = .ok (.iconst 4, 1) := by decide +kernel
theorem dX7_measure_134 : decode cX7_measure 134 = .ok (.iload 6, 2) := by decide +kernel
theorem dX7_measure_136 : decode cX7_measure 136 = .ok (.imul, 1) := by decide +kernel
theorem dX7_measure_137 : decode cX7_measure 137 = .ok (.iadd, 1) := by decide +kernel
theorem dX7_measure_138 : decode cX7_measure 138 = .ok (.iconst 1, 1) := by decide +kernel
theorem dX7_measure_139 : decode cX7_measure 139 = .ok (.iastore, 1) := by decide +kernel
theorem dX7_measure_140 : decode cX7_measure 140 = .ok (.aload 5, 2) := by decide +kernel
theorem dX7_measure_142 : decode cX7_measure 142 = .ok (.iconst 5, 1) := by decide +kernel
theorem dX7_measure_143 : decode cX7_measure 143 = .ok (.iconst 4, 1) := by decide +kernel
theorem dX7_measure_144 : decode cX7_measure 144 = .ok (.iload 6, 2) := by decide +kernel
theorem dX7_measure_146 : decode cX7_measure 146 = .ok (.imul, 1) := by decide +kernel
theorem dX7_measure_147 : decode cX7_measure 147 = .ok (.iadd, 1) := by decide +kernel
theorem dX7_measure_148 : decode cX7_measure 148 = .ok (.iconst 1, 1) := by decide +kernel
theorem dX7_measure_149 : decode cX7_measure 149 = .ok (.iadd, 1) := by decide +kernel
theorem dX7_measure_150 : decode cX7_measure 150 = .ok (.aload 7, 2) := by decide +kernel
theorem dX7_measure_152 : decode cX7_measure 152 = .ok (.iconst 0, 1) := by decide +kernel
theorem dX7_measure_153 : decode cX7_measure 153 = .ok (.iaload, 1) := by decide +kernel
theorem dX7_measure_154 : decode cX7_measure 154 = .ok (.iastore, 1) := by decide +kernel
theorem dX7_measure_155 : decode cX7_measure 155 = .ok (.aload 5, 2) := by decide +kernel
theorem dX7_measure_157 : decode cX7_measure 157 = .ok (.iconst 5, 1) := by decide +kernel
theorem dX7_measure_158 : decode cX7_measure 158 = .ok (.iconst 4, 1) := by decide +kernel
theorem dX7_measure_159 : decode cX7_measure 159 = .ok (.iload 6, 2) := by decide +kernel
theorem dX7_measure_161 : decode cX7_measure 161 = .ok (.imul, 1) := by decide +kernel
theorem dX7_measure_162 : decode cX7_measure 162 = .ok (.iadd, 1) := by decide +kernel
theorem dX7_measure_163 : decode cX7_measure 163 = .ok (.iconst 2, 1) := by decide +kernel
theorem dX7_measure_164 : decode cX7_measure 164 = .ok (.iadd, 1) := by decide +kernel
theorem dX7_measure_165 : decode cX7_measure 165 = .ok (.aload 7, 2) := by decide +kernel
theorem dX7_measure_167 : decode cX7_measure 167 = .ok (.iconst 1, 1) := by decide +kernel
theorem dX7_measure_168 : decode cX7_measure 168 = .ok (.iaload, 1) := by decide +kernel
theorem dX7_measure_169 : decode cX7_measure 169 = .ok (.iconst 5, 1) := by decide +kernel
theorem dX7_measure_170 : decode cX7_measure 170 = .ok (.if_icmp .ge 7, 3) := by decide +kernel
theorem dX7_measure_173 : decode cX7_measure 173 = .ok (.iconst 0, 1) := by decide +kernel
theorem dX7_measure_174 : decode cX7_measure 174 = .ok (.goto 7, 3) := by decide +kernel
theorem dX7_measure_177 : decode cX7_measure 177 = .ok (.aload 7, 2) := by decide +kernel
theorem dX7_measure_179 : decode cX7_measure 179 = .ok (.iconst 1, 1) := by decide +kernel
theorem dX7_measure_180 : decode cX7_measure 180 = .ok (.iaload, 1) := by decide +kernel
theorem dX7_measure_181 : decode cX7_measure 181 = .ok (.iastore, 1) := by decide +kernel
theorem dX7_measure_182 : decode cX7_measure 182 = .ok (.aload 5, 2) := by decide +kernel
theorem dX7_measure_184 : decode cX7_measure 184 = .ok (.iconst 5, 1) := by decide +kernel
theorem dX7_measure_185 : decode cX7_measure 185 = .ok (.iconst 4, 1) := by decide +kernel
theorem dX7_measure_186 : decode cX7_measure 186 = .ok (.iload 6, 2) := by decide +kernel
theorem dX7_measure_188 : decode cX7_measure 188 = .ok (.imul, 1) := by decide +kernel
theorem dX7_measure_189 : decode cX7_measure 189 = .ok (.iadd, 1) := by decide +kernel
theorem dX7_measure_190 : decode cX7_measure 190 = .ok (.iconst 3, 1) := by decide +kernel
theorem dX7_measure_191 : decode cX7_measure 191 = .ok (.iadd, 1) := by decide +kernel
theorem dX7_measure_192 : decode cX7_measure 192 = .ok (.aload 7, 2) := by decide +kernel
theorem dX7_measure_194 : decode cX7_measure 194 = .ok (.iconst 2, 1) := by decide +kernel
theorem dX7_measure_195 : decode cX7_measure 195 = .ok (.iaload, 1) := by decide +kernel
theorem dX7_measure_196 : decode cX7_measure 196 = .ok (.iastore, 1) := by decide +kernel
theorem dX7_measure_197 : decode cX7_measure 197 = .ok (.iinc 6 1, 3) := by decide +kernel
theorem dX7_measure_200 : decode cX7_measure 200 = .ok (.goto (-110), 3) := by decide +kernel
theorem dX7_measure_203 : decode cX7_measure 203 = .ok (.aload_n 0, 1) := by decide +kernel
theorem dX7_measure_204 : decode cX7_measure 204 = .ok (.getfield 24, 3) := by decide +kernel
theorem dX7_measure_207 : decode cX7_measure 207 = .ok (.aload 5, 2) := by decide +kernel
theorem dX7_measure_209 : decode cX7_measure 209 = .ok (.invokevirtual 121, 3) := by decide +kernel
theorem dX7_measure_212 : decode cX7_measure 212 = .ok (.pop, 1) := by decide +kernel
theorem dX7_measure_213 : decode cX7_measure 213 = .ok (.aload_n 0, 1) := by decide +kernel
theorem dX7_measure_214 : decode cX7_measure 214 = .ok (.getfield 24, 3) := by decide +kernel
theorem dX7_measure_217 : decode cX7_measure 217 = .ok (.invokevirtual 64, 3) := by decide +kernel
theorem dX7_measure_220 : decode cX7_measure 220 = .ok (.iconst 1, 1) := by decide +kernel
theorem dX7_measure_221 : decode cX7_measure 221 = .ok (.isub, 1) := by decide +kernel
theorem dX7_measure_222 : decode cX7_measure 222 = .ok (.ireturn, 1) := by decide +kernel
theorem dX7_align_0 : decode cX7_align 0 = .ok (.aload_n 0, 1) := by decide +kernel
theorem dX7_align_1 : decode cX7_align 1 = .ok (.iconst 0, 1) := by decide +kernel
theorem dX7_align_2 : decode cX7_align 2 = .ok (.putfield 31, 3) := by decide +kernel
theorem dX7_align_5 : decode cX7_align 5 = .ok (.iload_n 1, 1) := by decide +kernel
theorem dX7_align_6 : decode cX7_align 6 = .ok (.iconst 0, 1) := by decide +kernel
theorem dX7_align_7 : decode cX7_align 7 = .ok (.aload_n 0, 1) := by decide +kernel
theorem dX7_align_8 : decode cX7_align 8 = .ok (.getfield 24, 3) := by decide +kernel
theorem dX7_align_11 : decode cX7_align 11 = .ok (.invokevirtual 64, 3) := by decide +kernel
theorem dX7_align_14 : decode cX7_align 14 = .ok (.iconst 1, 1) := by decide +kernel
theorem dX7_align_15 : decode cX7_align 15 = .ok (.isub, 1) := by decide +kernel
theorem dX7_align_16 : decode cX7_align 16 = .ok (.invokestatic 68, 3) := by decide +kernel
theorem dX7_align_19 : decode cX7_align 19 = .ok (.ifCond .ne 9, 3) := by decide +kernel
theorem dX7_align_22 : decode cX7_align 22 = .ok (.aload_n 0, 1) := by decide +kernel
theorem dX7_align_23 : decode cX7_align 23 = .ok (.iconst 1, 1) := by decide +kernel
theorem dX7_align_24 : decode cX7_align 24 = .ok (.invokevirtual 76, 3) := by decide +kernel
theorem dX7_align_27 : decode cX7_align 27 = .ok (.ireturn, 1) := by decide +kernel
theorem dX7_align_28 : decode cX7_align 28 = .ok (.aload_n 0, 1) := by decide +kernel
theorem dX7_align_29 : decode cX7_align 29 = .ok (.getfield 24, 3) := by decide +kernel
theorem dX7_align_32 : decode cX7_align 32 = .ok (.iload_n 1, 1) := by decide +kernel
theorem dX7_align_33 : decode cX7_align 33 = .ok (.invokevirtual 52, 3) := by decide +kernel
theorem dX7_align_36 : decode cX7_align 36 = .ok (.checkcast 56, 3) := by decide +kernel
theorem dX7_align_39 : decode cX7_align 39 = .ok (.astore_n 2, 1) := by decide +kernel
theorem dX7_align_40 : decode cX7_align 40 = .ok (.aload_n 2, 1) := by decide +kernel
theorem dX7_align_41 : decode cX7_align 41 = .ok (.iconst 4, 1) := by decide +kernel
theorem dX7_align_42 : decode cX7_align 42 = .ok (.iaload, 1) := by decide +kernel
theorem dX7_align_43 : decode cX7_align 43 = .ok (.iconst 1, 1) := by decide +kernel
theorem dX7_align_44 : decode cX7_align 44 = .ok (.if_icmp .ne 9, 3) := by decide +kernel
theorem dX7_align_47 : decode cX7_align 47 = .ok (.aload_n 0, 1) := by decide +kernel
theorem dX7_align_48 : decode cX7_align 48 = .ok (.iconst 2, 1) := by decide +kernel
theorem dX7_align_49 : decode cX7_align 49 = .ok (.invokevirtual 76, 3) := by decide +kernel
theorem dX7_align_52 : decode cX7_align 52 = .ok (.ireturn, 1) := by decide +kernel
theorem dX7_align_53 : decode cX7_align 53 = .ok (.aload_n 2, 1) := by decide +kernel
theorem dX7_align_54 : decode cX7_align 54 = .ok (.iconst 4, 1) := by decide +kernel
theorem dX7_align_55 : decode cX7_align 55 = .ok (.iconst 1, 1) := by decide +kernel
theorem dX7_align_56 : decode cX7_align 56 = .ok (.iastore, 1) := by decide +kernel
theorem dX7_align_57 : decode cX7_align 57 = .ok (.aload_n 2, 1) := by decide +kernel
theorem dX7_align_58 : decode cX7_align 58 = .ok (.iconst 3, 1) := by decide +kernel
theorem dX7_align_59 : decode cX7_align 59 = .ok (.iaload, 1) := by decide +kernel
theorem dX7_align_60 : decode cX7_align 60 = .ok (.ireturn, 1) := by decide +kernel
theorem dX7_isMachine_0 : decode cX7_isMachine 0 = .ok (.iload_n 1, 1) := by decide +kernel
theorem dX7_isMachine_1 : decode cX7_isMachine 1 = .ok (.iconst 0, 1) := by decide +kernel
theorem dX7_isMachine_2 : decode cX7_isMachine 2 = .ok (.aload_n 0, 1) := by decide +kernel
theorem dX7_isMachine_3 : decode cX7_isMachine 3 = .ok (.getfield 17, 3) := by decide +kernel
theorem dX7_isMachine_6 : decode cX7_isMachine 6 = .ok (.invokevirtual 64, 3) := by decide +kernel
theorem dX7_isMachine_9 : decode cX7_isMachine 9 = .ok (.iconst 1, 1) := by decide +kernel
theorem dX7_isMachine_10 : decode cX7_isMachine 10 = .ok (.isub, 1) := by decide +kernel
theorem dX7_isMachine_11 : decode cX7_isMachine 11 = .ok (.invokestatic 68, 3) := by decide +kernel
theorem dX7_isMachine_14 : decode cX7_isMachine 14 = .ok (.ireturn, 1) := by decide +kernel
theorem dX7_isNight_0 : decode cX7_isNight 0 = .ok (.iload_n 1, 1) := by decide +kernel
theorem dX7_isNight_1 : decode cX7_isNight 1 = .ok (.iconst 0, 1) := by decide +kernel
theorem dX7_isNight_2 : decode cX7_isNight 2 = .ok (.aload_n 0, 1) := by decide +kernel
theorem dX7_isNight_3 : decode cX7_isNight 3 = .ok (.getfield 21, 3) := by decide +kernel
theorem dX7_isNight_6 : decode cX7_isNight 6 = .ok (.invokevirtual 64, 3) := by decide +kernel
theorem dX7_isNight_9 : decode cX7_isNight 9 = .ok (.iconst 1, 1) := by decide +kernel
theorem dX7_isNight_10 : decode cX7_isNight 10 = .ok (.isub, 1) := by decide +kernel
theorem dX7_isNight_11 : decode cX7_isNight 11 = .ok (.invokestatic 68, 3) := by decide +kernel
theorem dX7_isNight_14 : decode cX7_isNight 14 = .ok (.ireturn, 1) := by decide +kernel
theorem dX7_machine_0 : decode cX7_machine 0 = .ok (.aload_n 0, 1) := by decide +kernel
theorem dX7_machine_1 : decode cX7_machine 1 = .ok (.iconst 0, 1) := by decide +kernel
theorem dX7_machine_2 : decode cX7_machine 2 = .ok (.putfield 31, 3) := by decide +kernel
theorem dX7_machine_5 : decode cX7_machine 5 = .ok (.iload_n 1, 1) := by decide +kernel
theorem dX7_machine_6 : decode cX7_machine 6 = .ok (.iconst 0, 1) := by decide +kernel
theorem dX7_machine_7 : decode cX7_machine 7 = .ok (.iconst 2, 1) := by decide +kernel
theorem dX7_machine_8 : decode cX7_machine 8 = .ok (.invokestatic 68, 3) := by decide +kernel
theorem dX7_machine_11 : decode cX7_machine 11 = .ok (.ifCond .eq 13, 3) := by decide +kernel
theorem dX7_machine_14 : decode cX7_machine 14 = .ok (.iload_n 2, 1) := by decide +kernel
theorem dX7_machine_15 : decode cX7_machine 15 = .ok (.iconst 0, 1) := by decide +kernel
theorem dX7_machine_16 : decode cX7_machine 16 = .ok (.bipush 99, 2) := by decide +kernel
theorem dX7_machine_18 : decode cX7_machine 18 = .ok (.invokestatic 68, 3) := by decide +kernel
theorem dX7_machine_21 : decode cX7_machine 21 = .ok (.ifCond .ne 9, 3) := by decide +kernel
theorem dX7_machine_24 : decode cX7_machine 24 = .ok (.aload_n 0, 1) := by decide +kernel
theorem dX7_machine_25 : decode cX7_machine 25 = .ok (.iconst 1, 1) := by decide +kernel
theorem dX7_machine_26 : decode cX7_machine 26 = .ok (.invokevirtual 76, 3) := by decide +kernel
theorem dX7_machine_29 : decode cX7_machine 29 = .ok (.ireturn, 1) := by decide +kernel
theorem dX7_machine_30 : decode cX7_machine 30 = .ok (.aload_n 0, 1) := by decide +kernel
theorem dX7_machine_31 : decode cX7_machine 31 = .ok (.getfield 17, 3) := by decide +kernel
theorem dX7_machine_34 : decode cX7_machine 34 = .ok (.invokevirtual 64, 3) := by decide +kernel
theorem dX7_machine_37 : decode cX7_machine 37 = .ok (.iconst 4, 1) := by decide +kernel
theorem dX7_machine_38 : decode cX7_machine 38 = .ok (.if_icmp .ne 9, 3) := by decide +kernel
theorem dX7_machine_41 : decode cX7_machine 41 = .ok (.aload_n 0, 1) := by decide +kernel
theorem dX7_machine_42 : decode cX7_machine 42 = .ok (.iconst 2, 1) := by decide +kernel
theorem dX7_machine_43 : decode cX7_machine 43 = .ok (.invokevirtual 76, 3) := by decide +kernel
theorem dX7_machine_46 : decode cX7_machine 46 = .ok (.ireturn, 1) := by decide +kernel
theorem dX7_machine_47 : decode cX7_machine 47 = .ok (.iconst 4, 1) := by decide +kernel
theorem dX7_machine_48 : decode cX7_machine 48 = .ok (.newarray .int, 2) := by decide +kernel
theorem dX7_machine_50 : decode cX7_machine 50 = .ok (.dup, 1) := by decide +kernel
theorem dX7_machine_51 : decode cX7_machine 51 = .ok (.iconst 0, 1) := by decide +kernel
theorem dX7_machine_52 : decode cX7_machine 52 = .ok (.iload_n 1, 1) := by decide +kernel
theorem dX7_machine_53 : decode cX7_machine 53 = .ok (.iastore, 1) := by decide +kernel
theorem dX7_machine_54 : decode cX7_machine 54 = .ok (.dup, 1) := by decide +kernel
theorem dX7_machine_55 : decode cX7_machine 55 = .ok (.iconst 1, 1) := by decide +kernel
theorem dX7_machine_56 : decode cX7_machine 56 = .ok (.iload_n 2, 1) := by decide +kernel
theorem dX7_machine_57 : decode cX7_machine 57 = .ok (.iastore, 1) := by decide +kernel
theorem dX7_machine_58 : decode cX7_machine 58 = .ok (.dup, 1) := by decide +kernel
theorem dX7_machine_59 : decode cX7_machine 59 = .ok (.iconst 2, 1) := by decide +kernel
theorem dX7_machine_60 : decode cX7_machine 60 = .ok (.iconst 0, 1) := by decide +kernel
theorem dX7_machine_61 : decode cX7_machine 61 = .ok (.iastore, 1) := by decide +kernel
theorem dX7_machine_62 : decode cX7_machine 62 = .ok (.dup, 1) := by decide +kernel
theorem dX7_machine_63 : decode cX7_machine 63 = .ok (.iconst 3, 1) := by decide +kernel
theorem dX7_machine_64 : decode cX7_machine 64 = .ok (.iconst 0, 1) := by decide +kernel
theorem dX7_machine_65 : decode cX7_machine 65 = .ok (.iastore, 1) := by decide +kernel
theorem dX7_machine_66 : decode cX7_machine 66 = .ok (.astore_n 3, 1) := by decide +kernel
theorem dX7_machine_67 : decode cX7_machine 67 = .ok (.aload_n 0, 1) := by decide +kernel
theorem dX7_machine_68 : decode cX7_machine 68 = .ok (.getfield 17, 3) := by decide +kernel
theorem dX7_machine_71 : decode cX7_machine 71 = .ok (.aload_n 3, 1) := by decide +kernel
theorem dX7_machine_72 : decode cX7_machine 72 = .ok (.invokevirtual 121, 3) := by decide +kernel
theorem dX7_machine_75 : decode cX7_machine 75 = .ok (.pop, 1) := by decide +kernel
theorem dX7_machine_76 : decode cX7_machine 76 = .ok (.aload_n 0, 1) := by decide +kernel
theorem dX7_machine_77 : decode cX7_machine 77 = .ok (.getfield 17, 3) := by decide +kernel
theorem dX7_machine_80 : decode cX7_machine 80 = .ok (.invokevirtual 64, 3) := by decide +kernel
theorem dX7_machine_83 : decode cX7_machine 83 = .ok (.iconst 1, 1) := by decide +kernel
theorem dX7_machine_84 : decode cX7_machine 84 = .ok (.isub, 1) := by decide +kernel
theorem dX7_machine_85 : decode cX7_machine 85 = .ok (.ireturn, 1) := by decide +kernel
theorem dX7_uses_0 : decode cX7_uses 0 = .ok (.iconst 0, 1) := by decide +kernel
theorem dX7_uses_1 : decode cX7_uses 1 = .ok (.istore_n 2, 1) := by decide +kernel
theorem dX7_uses_2 : decode cX7_uses 2 = .ok (.iconst 0, 1) := by decide +kernel
theorem dX7_uses_3 : decode cX7_uses 3 = .ok (.istore_n 3, 1) := by decide +kernel
theorem dX7_uses_4 : decode cX7_uses 4 = .ok (.iload_n 3, 1) := by decide +kernel
theorem dX7_uses_5 : decode cX7_uses 5 = .ok (.aload_n 0, 1) := by decide +kernel
theorem dX7_uses_6 : decode cX7_uses 6 = .ok (.bipush 6, 2) := by decide +kernel
theorem dX7_uses_8 : decode cX7_uses 8 = .ok (.iaload, 1) := by decide +kernel
theorem dX7_uses_9 : decode cX7_uses 9 = .ok (.if_icmp .ge 31, 3) := by decide +kernel
theorem dX7_uses_12 : decode cX7_uses 12 = .ok (.iload_n 2, 1) := by decide +kernel
theorem dX7_uses_13 : decode cX7_uses 13 = .ok (.aload_n 0, 1) := by decide +kernel
theorem dX7_uses_14 : decode cX7_uses 14 = .ok (.bipush 10, 2) := by decide +kernel
theorem dX7_uses_16 : decode cX7_uses 16 = .ok (.iconst 3, 1) := by decide +kernel
theorem dX7_uses_17 : decode cX7_uses 17 = .ok (.iload_n 3, 1) := by decide +kernel
theorem dX7_uses_18 : decode cX7_uses 18 = .ok (.imul, 1) := by decide +kernel
theorem dX7_uses_19 : decode cX7_uses 19 = .ok (.iadd, 1) := by decide +kernel
theorem dX7_uses_20 : decode cX7_uses 20 = .ok (.iconst 1, 1) := by decide +kernel
theorem dX7_uses_21 : decode cX7_uses 21 = .ok (.iadd, 1) := by decide +kernel
theorem dX7_uses_22 : decode cX7_uses 22 = .ok (.iaload, 1) := by decide +kernel
theorem dX7_uses_23 : decode cX7_uses 23 = .ok (.iload_n 1, 1) := by decide +kernel
theorem dX7_uses_24 : decode cX7_uses 24 = .ok (.if_icmp .ne 7, 3) := by decide +kernel
theorem dX7_uses_27 : decode cX7_uses 27 = .ok (.iconst 1, 1) := by decide +kernel
theorem dX7_uses_28 : decode cX7_uses 28 = .ok (.goto 4, 3) := by decide +kernel
theorem dX7_uses_31 : decode cX7_uses 31 = .ok (.iconst 0, 1) := by decide +kernel
theorem dX7_uses_32 : decode cX7_uses 32 = .ok (.ior, 1) := by decide +kernel
theorem dX7_uses_33 : decode cX7_uses 33 = .ok (.istore_n 2, 1) := by decide +kernel
theorem dX7_uses_34 : decode cX7_uses 34 = .ok (.iinc 3 1, 3) := by decide +kernel
theorem dX7_uses_37 : decode cX7_uses 37 = .ok (.goto (-33), 3) := by decide +kernel
theorem dX7_uses_40 : decode cX7_uses 40 = .ok (.iload_n 2, 1) := by decide +kernel
theorem dX7_uses_41 : decode cX7_uses 41 = .ok (.ireturn, 1) := by decide +kernel
theorem dX7_service_0 : decode cX7_service 0 = .ok (.aload_n 0, 1) := by decide +kernel
theorem dX7_service_1 : decode cX7_service 1 = .ok (.iconst 0, 1) := by decide +kernel
theorem dX7_service_2 : decode cX7_service 2 = .ok (.putfield 31, 3) := by decide +kernel
theorem dX7_service_5 : decode cX7_service 5 = .ok (.aload_n 0, 1) := by decide +kernel
theorem dX7_service_6 : decode cX7_service 6 = .ok (.iload_n 1, 1) := by decide +kernel
theorem dX7_service_7 : decode cX7_service 7 = .ok (.invokevirtual 125, 3) := by decide +kernel
theorem dX7_service_10 : decode cX7_service 10 = .ok (.ifCond .ne 9, 3) := by decide +kernel
theorem dX7_service_13 : decode cX7_service 13 = .ok (.aload_n 0, 1) := by decide +kernel
theorem dX7_service_14 : decode cX7_service 14 = .ok (.iconst 1, 1) := by decide +kernel
theorem dX7_service_15 : decode cX7_service 15 = .ok (.invokevirtual 76, 3) := by decide +kernel
theorem dX7_service_18 : decode cX7_service 18 = .ok (.ireturn, 1) := by decide +kernel
theorem dX7_service_19 : decode cX7_service 19 = .ok (.aload_n 0, 1) := by decide +kernel
theorem dX7_service_20 : decode cX7_service 20 = .ok (.getfield 21, 3) := by decide +kernel
theorem dX7_service_23 : decode cX7_service 23 = .ok (.invokevirtual 79, 3) := by decide +kernel
theorem dX7_service_26 : decode cX7_service 26 = .ok (.astore_n 2, 1) := by decide +kernel
theorem dX7_service_27 : decode cX7_service 27 = .ok (.aload_n 2, 1) := by decide +kernel
theorem dX7_service_28 : decode cX7_service 28 = .ok (.invokeinterface 83 1, 5) := by decide +kernel
theorem dX7_service_33 : decode cX7_service 33 = .ok (.ifCond .eq 37, 3) := by decide +kernel
theorem dX7_service_36 : decode cX7_service 36 = .ok (.aload_n 2, 1) := by decide +kernel
theorem dX7_service_37 : decode cX7_service 37 = .ok (.invokeinterface 89 1, 5) := by decide +kernel
theorem dX7_service_42 : decode cX7_service 42 = .ok (.checkcast 56, 3) := by decide +kernel
theorem dX7_service_45 : decode cX7_service 45 = .ok (.astore_n 3, 1) := by decide +kernel
theorem dX7_service_46 : decode cX7_service 46 = .ok (.aload_n 3, 1) := by decide +kernel
theorem dX7_service_47 : decode cX7_service 47 = .ok (.iconst 0, 1) := by decide +kernel
theorem dX7_service_48 : decode cX7_service 48 = .ok (.iaload, 1) := by decide +kernel
theorem dX7_service_49 : decode cX7_service 49 = .ok (.iconst 1, 1) := by decide +kernel
theorem dX7_service_50 : decode cX7_service 50 = .ok (.if_icmp .ne 17, 3) := by decide +kernel
theorem dX7_service_53 : decode cX7_service 53 = .ok (.aload_n 3, 1) := by decide +kernel
theorem dX7_service_54 : decode cX7_service 54 = .ok (.iload_n 1, 1) := by decide +kernel
theorem dX7_service_55 : decode cX7_service 55 = .ok (.invokestatic 128, 3) := by decide +kernel
theorem dX7_service_58 : decode cX7_service 58 = .ok (.ifCond .eq 9, 3) := by decide +kernel
theorem dX7_service_61 : decode cX7_service 61 = .ok (.aload_n 0, 1) := by decide +kernel
theorem dX7_service_62 : decode cX7_service 62 = .ok (.iconst 2, 1) := by decide +kernel
theorem dX7_service_63 : decode cX7_service 63 = .ok (.invokevirtual 76, 3) := by decide +kernel
theorem dX7_service_66 : decode cX7_service 66 = .ok (.ireturn, 1) := by decide +kernel
theorem dX7_service_67 : decode cX7_service 67 = .ok (.goto (-40), 3) := by decide +kernel
theorem dX7_service_70 : decode cX7_service 70 = .ok (.aload_n 0, 1) := by decide +kernel
theorem dX7_service_71 : decode cX7_service 71 = .ok (.getfield 17, 3) := by decide +kernel
theorem dX7_service_74 : decode cX7_service 74 = .ok (.iload_n 1, 1) := by decide +kernel
theorem dX7_service_75 : decode cX7_service 75 = .ok (.invokevirtual 52, 3) := by decide +kernel
theorem dX7_service_78 : decode cX7_service 78 = .ok (.checkcast 56, 3) := by decide +kernel
theorem dX7_service_81 : decode cX7_service 81 = .ok (.iconst 1, 1) := by decide +kernel
theorem dX7_service_82 : decode cX7_service 82 = .ok (.iaload, 1) := by decide +kernel
theorem dX7_service_83 : decode cX7_service 83 = .ok (.istore_n 2, 1) := by decide +kernel
theorem dX7_service_84 : decode cX7_service 84 = .ok (.aload_n 0, 1) := by decide +kernel
theorem dX7_service_85 : decode cX7_service 85 = .ok (.getfield 17, 3) := by decide +kernel
theorem dX7_service_88 : decode cX7_service 88 = .ok (.iload_n 1, 1) := by decide +kernel
theorem dX7_service_89 : decode cX7_service 89 = .ok (.invokevirtual 52, 3) := by decide +kernel
theorem dX7_service_92 : decode cX7_service 92 = .ok (.checkcast 56, 3) := by decide +kernel
theorem dX7_service_95 : decode cX7_service 95 = .ok (.iconst 1, 1) := by decide +kernel
theorem dX7_service_96 : decode cX7_service 96 = .ok (.bipush 40, 2) := by decide +kernel
theorem dX7_service_98 : decode cX7_service 98 = .ok (.iastore, 1) := by decide +kernel
theorem dX7_service_99 : decode cX7_service 99 = .ok (.aload_n 0, 1) := by decide +kernel
theorem dX7_service_100 : decode cX7_service 100 = .ok (.dup, 1) := by decide +kernel
theorem dX7_service_101 : decode cX7_service 101 = .ok (.getfield 103, 3) := by decide +kernel
theorem dX7_service_104 : decode cX7_service 104 = .ok (.sipush 200, 3) := by decide +kernel
theorem dX7_service_107 : decode cX7_service 107 = .ok (.iadd, 1) := by decide +kernel
theorem dX7_service_108 : decode cX7_service 108 = .ok (.putfield 103, 3) := by decide +kernel
theorem dX7_service_111 : decode cX7_service 111 = .ok (.iload_n 2, 1) := by decide +kernel
theorem dX7_service_112 : decode cX7_service 112 = .ok (.ireturn, 1) := by decide +kernel
theorem dX7_isFree_0 : decode cX7_isFree 0 = .ok (.aload_n 0, 1) := by decide +kernel
theorem dX7_isFree_1 : decode cX7_isFree 1 = .ok (.getfield 21, 3) := by decide +kernel
theorem dX7_isFree_4 : decode cX7_isFree 4 = .ok (.invokevirtual 79, 3) := by decide +kernel
theorem dX7_isFree_7 : decode cX7_isFree 7 = .ok (.astore 5, 2) := by decide +kernel
theorem dX7_isFree_9 : decode cX7_isFree 9 = .ok (.aload 5, 2) := by decide +kernel
theorem dX7_isFree_11 : decode cX7_isFree 11 = .ok (.invokeinterface 83 1, 5) := by decide +kernel
theorem dX7_isFree_16 : decode cX7_isFree 16 = .ok (.ifCond .eq 61, 3) := by decide +kernel
theorem dX7_isFree_19 : decode cX7_isFree 19 = .ok (.aload 5, 2) := by decide +kernel
theorem dX7_isFree_21 : decode cX7_isFree 21 = .ok (.invokeinterface 89 1, 5) := by decide +kernel
theorem dX7_isFree_26 : decode cX7_isFree 26 = .ok (.checkcast 56, 3) := by decide +kernel
theorem dX7_isFree_29 : decode cX7_isFree 29 = .ok (.astore 6, 2) := by decide +kernel
theorem dX7_isFree_31 : decode cX7_isFree 31 = .ok (.aload 6, 2) := by decide +kernel
theorem dX7_isFree_33 : decode cX7_isFree 33 = .ok (.iconst 4, 1) := by decide +kernel
theorem dX7_isFree_34 : decode cX7_isFree 34 = .ok (.iaload, 1) := by decide +kernel
theorem dX7_isFree_35 : decode cX7_isFree 35 = .ok (.iload 4, 2) := by decide +kernel
theorem dX7_isFree_37 : decode cX7_isFree 37 = .ok (.if_icmp .ne 37, 3) := by decide +kernel
theorem dX7_isFree_40 : decode cX7_isFree 40 = .ok (.aload 6, 2) := by decide +kernel
theorem dX7_isFree_42 : decode cX7_isFree 42 = .ok (.iconst 0, 1) := by decide +kernel
theorem dX7_isFree_43 : decode cX7_isFree 43 = .ok (.iaload, 1) := by decide +kernel
theorem dX7_isFree_44 : decode cX7_isFree 44 = .ok (.iconst 4, 1) := by decide +kernel
theorem dX7_isFree_45 : decode cX7_isFree 45 = .ok (.if_icmp .eq 29, 3) := by decide +kernel
theorem dX7_isFree_48 : decode cX7_isFree 48 = .ok (.aload 6, 2) := by decide +kernel
theorem dX7_isFree_50 : decode cX7_isFree 50 = .ok (.iconst 1, 1) := by decide +kernel
theorem dX7_isFree_51 : decode cX7_isFree 51 = .ok (.iaload, 1) := by decide +kernel
theorem dX7_isFree_52 : decode cX7_isFree 52 = .ok (.iload_n 1, 1) := by decide +kernel
theorem dX7_isFree_53 : decode cX7_isFree 53 = .ok (.if_icmp .ne 21, 3) := by decide +kernel
theorem dX7_isFree_56 : decode cX7_isFree 56 = .ok (.aload 6, 2) := by decide +kernel
theorem dX7_isFree_58 : decode cX7_isFree 58 = .ok (.iconst 2, 1) := by decide +kernel
theorem dX7_isFree_59 : decode cX7_isFree 59 = .ok (.iaload, 1) := by decide +kernel
theorem dX7_isFree_60 : decode cX7_isFree 60 = .ok (.iload_n 3, 1) := by decide +kernel
theorem dX7_isFree_61 : decode cX7_isFree 61 = .ok (.if_icmp .gt 13, 3) := by decide +kernel
theorem dX7_isFree_64 : decode cX7_isFree 64 = .ok (.aload 6, 2) := by decide +kernel
theorem dX7_isFree_66 : decode cX7_isFree 66 = .ok (.iconst 3, 1) := by decide +kernel
theorem dX7_isFree_67 : decode cX7_isFree 67 = .ok (.iaload, 1) := by decide +kernel
theorem dX7_isFree_68 : decode cX7_isFree 68 = .ok (.iload_n 2, 1) := by decide +kernel
theorem dX7_isFree_69 : decode cX7_isFree 69 = .ok (.if_icmp .lt 5, 3) := by decide +kernel
theorem dX7_isFree_72 : decode cX7_isFree 72 = .ok (.iconst 0, 1) := by decide +kernel
theorem dX7_isFree_73 : decode cX7_isFree 73 = .ok (.ireturn, 1) := by decide +kernel
theorem dX7_isFree_74 : decode cX7_isFree 74 = .ok (.goto (-65), 3) := by decide +kernel
theorem dX7_isFree_77 : decode cX7_isFree 77 = .ok (.iconst 1, 1) := by decide +kernel
theorem dX7_isFree_78 : decode cX7_isFree 78 = .ok (.ireturn, 1) := by decide +kernel
theorem dX7_book_0 : decode cX7_book 0 = .ok (.aload_n 0, 1) := by decide +kernel
theorem dX7_book_1 : decode cX7_book 1 = .ok (.iconst 0, 1) := by decide +kernel
theorem dX7_book_2 : decode cX7_book 2 = .ok (.putfield 31, 3) := by decide +kernel
theorem dX7_book_5 : decode cX7_book 5 = .ok (.iload_n 1, 1) := by decide +kernel
theorem dX7_book_6 : decode cX7_book 6 = .ok (.iload_n 2, 1) := by decide +kernel
theorem dX7_book_7 : decode cX7_book 7 = .ok (.iload_n 3, 1) := by decide +kernel
theorem dX7_book_8 : decode cX7_book 8 = .ok (.invokestatic 118, 3) := by decide +kernel
theorem dX7_book_11 : decode cX7_book 11 = .ok (.ifCond .ne 9, 3) := by decide +kernel
theorem dX7_book_14 : decode cX7_book 14 = .ok (.aload_n 0, 1) := by decide +kernel
theorem dX7_book_15 : decode cX7_book 15 = .ok (.iconst 1, 1) := by decide +kernel
theorem dX7_book_16 : decode cX7_book 16 = .ok (.invokevirtual 76, 3) := by decide +kernel
theorem dX7_book_19 : decode cX7_book 19 = .ok (.ireturn, 1) := by decide +kernel
theorem dX7_book_20 : decode cX7_book 20 = .ok (.iload_n 3, 1) := by decide +kernel
theorem dX7_book_21 : decode cX7_book 21 = .ok (.iload_n 2, 1) := by decide +kernel
theorem dX7_book_22 : decode cX7_book 22 = .ok (.if_icmp .lt 33, 3) := by decide +kernel
theorem dX7_book_25 : decode cX7_book 25 = .ok (.iload 4, 2) := by decide +kernel
theorem dX7_book_27 : decode cX7_book 27 = .ok (.aload_n 0, 1) := by decide +kernel
theorem dX7_book_28 : decode cX7_book 28 = .ok (.getfield 93, 3) := by decide +kernel
theorem dX7_book_31 : decode cX7_book 31 = .ok (.iconst 5, 1) := by decide +kernel
theorem dX7_book_32 : decode cX7_book 32 = .ok (.iadd, 1) := by decide +kernel
theorem dX7_book_33 : decode cX7_book 33 = .ok (.if_icmp .lt 22, 3) := by decide +kernel
theorem dX7_book_36 : decode cX7_book 36 = .ok (.iload 4, 2) := by decide +kernel
theorem dX7_book_38 : decode cX7_book 38 = .ok (.sipush 2000, 3) := by decide +kernel
theorem dX7_book_41 : decode cX7_book 41 = .ok (.if_icmp .gt 14, 3) := by decide +kernel
theorem dX7_book_44 : decode cX7_book 44 = .ok (.iload 5, 2) := by decide +kernel
theorem dX7_book_46 : decode cX7_book 46 = .ok (.iconst 2, 1) := by decide +kernel
theorem dX7_book_47 : decode cX7_book 47 = .ok (.bipush 8, 2) := by decide +kernel
theorem dX7_book_49 : decode cX7_book 49 = .ok (.invokestatic 68, 3) := by decide +kernel
theorem dX7_book_52 : decode cX7_book 52 = .ok (.ifCond .ne 9, 3) := by decide +kernel
theorem dX7_book_55 : decode cX7_book 55 = .ok (.aload_n 0, 1) := by decide +kernel
theorem dX7_book_56 : decode cX7_book 56 = .ok (.iconst 2, 1) := by decide +kernel
theorem dX7_book_57 : decode cX7_book 57 = .ok (.invokevirtual 76, 3) := by decide +kernel
theorem dX7_book_60 : decode cX7_book 60 = .ok (.ireturn, 1) := by decide +kernel
theorem dX7_book_61 : decode cX7_book 61 = .ok (.aload_n 0, 1) := by decide +kernel
theorem dX7_book_62 : decode cX7_book 62 = .ok (.getfield 21, 3) := by decide +kernel
theorem dX7_book_65 : decode cX7_book 65 = .ok (.invokevirtual 64, 3) := by decide +kernel
theorem dX7_book_68 : decode cX7_book 68 = .ok (.bipush 16, 2) := by decide +kernel
theorem dX7_book_70 : decode cX7_book 70 = .ok (.if_icmp .eq 15, 3) := by decide +kernel
theorem dX7_book_73 : decode cX7_book 73 = .ok (.aload_n 0, 1) := by decide +kernel
theorem dX7_book_74 : decode cX7_book 74 = .ok (.iload_n 1, 1) := by decide +kernel
theorem dX7_book_75 : decode cX7_book 75 = .ok (.iload_n 2, 1) := by decide +kernel
theorem dX7_book_76 : decode cX7_book 76 = .ok (.iload_n 3, 1) := by decide +kernel
theorem dX7_book_77 : decode cX7_book 77 = .ok (.iload 4, 2) := by decide +kernel
theorem dX7_book_79 : decode cX7_book 79 = .ok (.invokevirtual 132, 3) := by decide +kernel
theorem dX7_book_82 : decode cX7_book 82 = .ok (.ifCond .ne 9, 3) := by decide +kernel
theorem dX7_book_85 : decode cX7_book 85 = .ok (.aload_n 0, 1) := by decide +kernel
theorem dX7_book_86 : decode cX7_book 86 = .ok (.iconst 3, 1) := by decide +kernel
theorem dX7_book_87 : decode cX7_book 87 = .ok (.invokevirtual 76, 3) := by decide +kernel
theorem dX7_book_90 : decode cX7_book 90 = .ok (.ireturn, 1) := by decide +kernel
theorem dX7_book_91 : decode cX7_book 91 = .ok (.bipush 28, 2) := by decide +kernel
theorem dX7_book_93 : decode cX7_book 93 = .ok (.newarray .int, 2) := by decide +kernel
theorem dX7_book_95 : decode cX7_book 95 = .ok (.astore 6, 2) := by decide +kernel
theorem dX7_book_97 : decode cX7_book 97 = .ok (.aload 6, 2) := by decide +kernel
theorem dX7_book_99 : decode cX7_book 99 = .ok (.iconst 1, 1) := by decide +kernel
theorem dX7_book_100 : decode cX7_book 100 = .ok (.iload_n 1, 1) := by decide +kernel
theorem dX7_book_101 : decode cX7_book 101 = .ok (.iastore, 1) := by decide +kernel
theorem dX7_book_102 : decode cX7_book 102 = .ok (.aload 6, 2) := by decide +kernel
theorem dX7_book_104 : decode cX7_book 104 = .ok (.iconst 2, 1) := by decide +kernel
theorem dX7_book_105 : decode cX7_book 105 = .ok (.iload_n 2, 1) := by decide +kernel
theorem dX7_book_106 : decode cX7_book 106 = .ok (.iastore, 1) := by decide +kernel
theorem dX7_book_107 : decode cX7_book 107 = .ok (.aload 6, 2) := by decide +kernel
theorem dX7_book_109 : decode cX7_book 109 = .ok (.iconst 3, 1) := by decide +kernel
theorem dX7_book_110 : decode cX7_book 110 = .ok (.iload_n 3, 1) := by decide +kernel
theorem dX7_book_111 : decode cX7_book 111 = .ok (.iastore, 1) := by decide +kernel
theorem dX7_book_112 : decode cX7_book 112 = .ok (.aload 6, 2) := by decide +kernel
theorem dX7_book_114 : decode cX7_book 114 = .ok (.iconst 4, 1) := by decide +kernel
theorem dX7_book_115 : decode cX7_book 115 = .ok (.iload 4, 2) := by decide +kernel
theorem dX7_book_117 : decode cX7_book 117 = .ok (.iastore, 1) := by decide +kernel
theorem dX7_book_118 : decode cX7_book 118 = .ok (.aload 6, 2) := by decide +kernel
theorem dX7_book_120 : decode cX7_book 120 = .ok (.iconst 5, 1) := by decide +kernel
theorem dX7_book_121 : decode cX7_book 121 = .ok (.iload 5, 2) := by decide +kernel
theorem dX7_book_123 : decode cX7_book 123 = .ok (.iastore, 1) := by decide +kernel
theorem dX7_book_124 : decode cX7_book 124 = .ok (.aload_n 0, 1) := by decide +kernel
theorem dX7_book_125 : decode cX7_book 125 = .ok (.getfield 21, 3) := by decide +kernel
theorem dX7_book_128 : decode cX7_book 128 = .ok (.aload 6, 2) := by decide +kernel
theorem dX7_book_130 : decode cX7_book 130 = .ok (.invokevirtual 121, 3) := by decide +kernel
theorem dX7_book_133 : decode cX7_book 133 = .ok (.pop, 1) := by decide +kernel
theorem dX7_book_134 : decode cX7_book 134 = .ok (.aload_n 0, 1) := by decide +kernel
theorem dX7_book_135 : decode cX7_book 135 = .ok (.getfield 21, 3) := by decide +kernel
theorem dX7_book_138 : decode cX7_book 138 = .ok (.invokevirtual 64, 3) := by decide +kernel
theorem dX7_book_141 : decode cX7_book 141 = .ok (.iconst 1, 1) := by decide +kernel
theorem dX7_book_142 : decode cX7_book 142 = .ok (.isub, 1) := by decide +kernel
theorem dX7_book_143 : decode cX7_book 143 = .ok (.ireturn, 1) := by decide +kernel
theorem dX7_has_0 : decode cX7_has 0 = .ok (.aload_n 1, 1) := by decide +kernel
theorem dX7_has_1 : decode cX7_has 1 = .ok (.iconst 1, 1) := by decide +kernel
theorem dX7_has_2 : decode cX7_has 2 = .ok (.iaload, 1) := by decide +kernel
theorem dX7_has_3 : decode cX7_has 3 = .ok (.iload_n 2, 1) := by decide +kernel
theorem dX7_has_4 : decode cX7_has 4 = .ok (.bipush 10, 2) := by decide +kernel
theorem dX7_has_6 : decode cX7_has 6 = .ok (.idiv, 1) := by decide +kernel
theorem dX7_has_7 : decode cX7_has 7 = .ok (.if_icmp .ne 23, 3) := by decide +kernel
theorem dX7_has_10 : decode cX7_has 10 = .ok (.iload_n 2, 1) := by decide +kernel
theorem dX7_has_11 : decode cX7_has 11 = .ok (.bipush 10, 2) := by decide +kernel
theorem dX7_has_13 : decode cX7_has 13 = .ok (.irem, 1) := by decide +kernel
theorem dX7_has_14 : decode cX7_has 14 = .ok (.aload_n 1, 1) := by decide +kernel
theorem dX7_has_15 : decode cX7_has 15 = .ok (.iconst 2, 1) := by decide +kernel
theorem dX7_has_16 : decode cX7_has 16 = .ok (.iaload, 1) := by decide +kernel
theorem dX7_has_17 : decode cX7_has 17 = .ok (.aload_n 1, 1) := by decide +kernel
theorem dX7_has_18 : decode cX7_has 18 = .ok (.iconst 3, 1) := by decide +kernel
theorem dX7_has_19 : decode cX7_has 19 = .ok (.iaload, 1) := by decide +kernel
theorem dX7_has_20 : decode cX7_has 20 = .ok (.invokestatic 68, 3) := by decide +kernel
theorem dX7_has_23 : decode cX7_has 23 = .ok (.ifCond .eq 7, 3) := by decide +kernel
theorem dX7_has_26 : decode cX7_has 26 = .ok (.iconst 1, 1) := by decide +kernel
theorem dX7_has_27 : decode cX7_has 27 = .ok (.goto 4, 3) := by decide +kernel
theorem dX7_has_30 : decode cX7_has 30 = .ok (.iconst 0, 1) := by decide +kernel
theorem dX7_has_31 : decode cX7_has 31 = .ok (.ireturn, 1) := by decide +kernel
theorem dX7_hours_0 : decode cX7_hours 0 = .ok (.iconst 1, 1) := by decide +kernel
theorem dX7_hours_1 : decode cX7_hours 1 = .ok (.iload_n 1, 1) := by decide +kernel
theorem dX7_hours_2 : decode cX7_hours 2 = .ok (.ishl, 1) := by decide +kernel
theorem dX7_hours_3 : decode cX7_hours 3 = .ok (.aload_n 0, 1) := by decide +kernel
theorem dX7_hours_4 : decode cX7_hours 4 = .ok (.getfield 11, 3) := by decide +kernel
theorem dX7_hours_7 : decode cX7_hours 7 = .ok (.iload_n 2, 1) := by decide +kernel
theorem dX7_hours_8 : decode cX7_hours 8 = .ok (.aaload, 1) := by decide +kernel
theorem dX7_hours_9 : decode cX7_hours 9 = .ok (.iconst 5, 1) := by decide +kernel
theorem dX7_hours_10 : decode cX7_hours 10 = .ok (.iaload, 1) := by decide +kernel
theorem dX7_hours_11 : decode cX7_hours 11 = .ok (.iadd, 1) := by decide +kernel
theorem dX7_hours_12 : decode cX7_hours 12 = .ok (.ireturn, 1) := by decide +kernel
theorem dX7_work_0 : decode cX7_work 0 = .ok (.aload_n 0, 1) := by decide +kernel
theorem dX7_work_1 : decode cX7_work 1 = .ok (.iconst 0, 1) := by decide +kernel
theorem dX7_work_2 : decode cX7_work 2 = .ok (.putfield 31, 3) := by decide +kernel
theorem dX7_work_5 : decode cX7_work 5 = .ok (.aload_n 0, 1) := by decide +kernel
theorem dX7_work_6 : decode cX7_work 6 = .ok (.iload_n 1, 1) := by decide +kernel
theorem dX7_work_7 : decode cX7_work 7 = .ok (.invokevirtual 136, 3) := by decide +kernel
theorem dX7_work_10 : decode cX7_work 10 = .ok (.ifCond .eq 18, 3) := by decide +kernel
theorem dX7_work_13 : decode cX7_work 13 = .ok (.aload_n 0, 1) := by decide +kernel
theorem dX7_work_14 : decode cX7_work 14 = .ok (.iload_n 3, 1) := by decide +kernel
theorem dX7_work_15 : decode cX7_work 15 = .ok (.invokevirtual 125, 3) := by decide +kernel
theorem dX7_work_18 : decode cX7_work 18 = .ok (.ifCond .eq 10, 3) := by decide +kernel
theorem dX7_work_21 : decode cX7_work 21 = .ok (.iload_n 2, 1) := by decide +kernel
theorem dX7_work_22 : decode cX7_work 22 = .ok (.invokestatic 72, 3) := by decide +kernel
theorem dX7_work_25 : decode cX7_work 25 = .ok (.ifCond .ne 9, 3) := by decide +kernel
theorem dX7_work_28 : decode cX7_work 28 = .ok (.aload_n 0, 1) := by decide +kernel
theorem dX7_work_29 : decode cX7_work 29 = .ok (.iconst 1, 1) := by decide +kernel
theorem dX7_work_30 : decode cX7_work 30 = .ok (.invokevirtual 76, 3) := by decide +kernel
theorem dX7_work_33 : decode cX7_work 33 = .ok (.ireturn, 1) := by decide +kernel
theorem dX7_work_34 : decode cX7_work 34 = .ok (.aload_n 0, 1) := by decide +kernel
theorem dX7_work_35 : decode cX7_work 35 = .ok (.getfield 21, 3) := by decide +kernel
theorem dX7_work_38 : decode cX7_work 38 = .ok (.iload_n 1, 1) := by decide +kernel
theorem dX7_work_39 : decode cX7_work 39 = .ok (.invokevirtual 52, 3) := by decide +kernel
theorem dX7_work_42 : decode cX7_work 42 = .ok (.checkcast 56, 3) := by decide +kernel
theorem dX7_work_45 : decode cX7_work 45 = .ok (.astore 4, 2) := by decide +kernel
theorem dX7_work_47 : decode cX7_work 47 = .ok (.aload_n 0, 1) := by decide +kernel
theorem dX7_work_48 : decode cX7_work 48 = .ok (.aload 4, 2) := by decide +kernel
theorem dX7_work_50 : decode cX7_work 50 = .ok (.iload_n 2, 1) := by decide +kernel
theorem dX7_work_51 : decode cX7_work 51 = .ok (.invokevirtual 139, 3) := by decide +kernel
theorem dX7_work_54 : decode cX7_work 54 = .ok (.ifCond .ne 9, 3) := by decide +kernel
theorem dX7_work_57 : decode cX7_work 57 = .ok (.aload_n 0, 1) := by decide +kernel
theorem dX7_work_58 : decode cX7_work 58 = .ok (.iconst 2, 1) := by decide +kernel
theorem dX7_work_59 : decode cX7_work 59 = .ok (.invokevirtual 76, 3) := by decide +kernel
theorem dX7_work_62 : decode cX7_work 62 = .ok (.ireturn, 1) := by decide +kernel
theorem dX7_work_63 : decode cX7_work 63 = .ok (.aload_n 0, 1) := by decide +kernel
theorem dX7_work_64 : decode cX7_work 64 = .ok (.aload_n 0, 1) := by decide +kernel
theorem dX7_work_65 : decode cX7_work 65 = .ok (.getfield 17, 3) := by decide +kernel
theorem dX7_work_68 : decode cX7_work 68 = .ok (.iload_n 3, 1) := by decide +kernel
theorem dX7_work_69 : decode cX7_work 69 = .ok (.invokevirtual 52, 3) := by decide +kernel
theorem dX7_work_72 : decode cX7_work 72 = .ok (.checkcast 56, 3) := by decide +kernel
theorem dX7_work_75 : decode cX7_work 75 = .ok (.iconst 0, 1) := by decide +kernel
theorem dX7_work_76 : decode cX7_work 76 = .ok (.iaload, 1) := by decide +kernel
theorem dX7_work_77 : decode cX7_work 77 = .ok (.iload_n 2, 1) := by decide +kernel
theorem dX7_work_78 : decode cX7_work 78 = .ok (.invokevirtual 142, 3) := by decide +kernel
theorem dX7_work_81 : decode cX7_work 81 = .ok (.istore 5, 2) := by decide +kernel
theorem dX7_work_83 : decode cX7_work 83 = .ok (.aload 4, 2) := by decide +kernel
theorem dX7_work_85 : decode cX7_work 85 = .ok (.iconst 0, 1) := by decide +kernel
theorem dX7_work_86 : decode cX7_work 86 = .ok (.iaload, 1) := by decide +kernel
theorem dX7_work_87 : decode cX7_work 87 = .ok (.ifCond .ne 28, 3) := by decide +kernel
theorem dX7_work_90 : decode cX7_work 90 = .ok (.aload 4, 2) := by decide +kernel
theorem dX7_work_92 : decode cX7_work 92 = .ok (.bipush 6, 2) := by decide +kernel
theorem dX7_work_94 : decode cX7_work 94 = .ok (.iaload, 1) := by decide +kernel
theorem dX7_work_95 : decode cX7_work 95 = .ok (.bipush 6, 2) := by decide +kernel
theorem dX7_work_97 : decode cX7_work 97 = .ok (.if_icmp .eq 18, 3) := by decide +kernel
theorem dX7_work_100 : decode cX7_work 100 = .ok (.aload 4, 2) := by decide +kernel
theorem dX7_work_102 : decode cX7_work 102 = .ok (.bipush 7, 2) := by decide +kernel
theorem dX7_work_104 : decode cX7_work 104 = .ok (.iaload, 1) := by decide +kernel
theorem dX7_work_105 : decode cX7_work 105 = .ok (.iload 5, 2) := by decide +kernel
theorem dX7_work_107 : decode cX7_work 107 = .ok (.iadd, 1) := by decide +kernel
theorem dX7_work_108 : decode cX7_work 108 = .ok (.aload 4, 2) := by decide +kernel
theorem dX7_work_110 : decode cX7_work 110 = .ok (.iconst 5, 1) := by decide +kernel
theorem dX7_work_111 : decode cX7_work 111 = .ok (.iaload, 1) := by decide +kernel
theorem dX7_work_112 : decode cX7_work 112 = .ok (.if_icmp .le 9, 3) := by decide +kernel
theorem dX7_work_115 : decode cX7_work 115 = .ok (.aload_n 0, 1) := by decide +kernel
theorem dX7_work_116 : decode cX7_work 116 = .ok (.iconst 3, 1) := by decide +kernel
theorem dX7_work_117 : decode cX7_work 117 = .ok (.invokevirtual 76, 3) := by decide +kernel
theorem dX7_work_120 : decode cX7_work 120 = .ok (.ireturn, 1) := by decide +kernel
theorem dX7_work_121 : decode cX7_work 121 = .ok (.aload_n 0, 1) := by decide +kernel
theorem dX7_work_122 : decode cX7_work 122 = .ok (.getfield 21, 3) := by decide +kernel
theorem dX7_work_125 : decode cX7_work 125 = .ok (.invokevirtual 79, 3) := by decide +kernel
theorem dX7_work_128 : decode cX7_work 128 = .ok (.astore 6, 2) := by decide +kernel
theorem dX7_work_130 : decode cX7_work 130 = .ok (.aload 6, 2) := by decide +kernel
theorem dX7_work_132 : decode cX7_work 132 = .ok (.invokeinterface 83 1, 5) := by decide +kernel
theorem dX7_work_137 : decode cX7_work 137 = .ok (.ifCond .eq 59, 3) := by decide +kernel
theorem dX7_work_140 : decode cX7_work 140 = .ok (.aload 6, 2) := by decide +kernel
theorem dX7_work_142 : decode cX7_work 142 = .ok (.invokeinterface 89 1, 5) := by decide +kernel
theorem dX7_work_147 : decode cX7_work 147 = .ok (.checkcast 56, 3) := by decide +kernel
theorem dX7_work_150 : decode cX7_work 150 = .ok (.astore 7, 2) := by decide +kernel
theorem dX7_work_152 : decode cX7_work 152 = .ok (.aload 7, 2) := by decide +kernel
theorem dX7_work_154 : decode cX7_work 154 = .ok (.aload 4, 2) := by decide +kernel
theorem dX7_work_156 : decode cX7_work 156 = .ok (.if_acmp .eq 37, 3) := by decide +kernel
theorem dX7_work_159 : decode cX7_work 159 = .ok (.aload 7, 2) := by decide +kernel
theorem dX7_work_161 : decode cX7_work 161 = .ok (.iconst 4, 1) := by decide +kernel
theorem dX7_work_162 : decode cX7_work 162 = .ok (.iaload, 1) := by decide +kernel
theorem dX7_work_163 : decode cX7_work 163 = .ok (.aload 4, 2) := by decide +kernel
theorem dX7_work_165 : decode cX7_work 165 = .ok (.iconst 4, 1) := by decide +kernel
theorem dX7_work_166 : decode cX7_work 166 = .ok (.iaload, 1) := by decide +kernel
theorem dX7_work_167 : decode cX7_work 167 = .ok (.if_icmp .ne 26, 3) := by decide +kernel
theorem dX7_work_170 : decode cX7_work 170 = .ok (.aload 7, 2) := by decide +kernel
theorem dX7_work_172 : decode cX7_work 172 = .ok (.iconst 0, 1) := by decide +kernel
theorem dX7_work_173 : decode cX7_work 173 = .ok (.iaload, 1) := by decide +kernel
theorem dX7_work_174 : decode cX7_work 174 = .ok (.iconst 1, 1) := by decide +kernel
theorem dX7_work_175 : decode cX7_work 175 = .ok (.if_icmp .gt 18, 3) := by decide +kernel
theorem dX7_work_178 : decode cX7_work 178 = .ok (.aload 7, 2) := by decide +kernel
theorem dX7_work_180 : decode cX7_work 180 = .ok (.iload_n 3, 1) := by decide +kernel
theorem dX7_work_181 : decode cX7_work 181 = .ok (.invokestatic 128, 3) := by decide +kernel
theorem dX7_work_184 : decode cX7_work 184 = .ok (.ifCond .eq 9, 3) := by decide +kernel
theorem dX7_work_187 : decode cX7_work 187 = .ok (.aload_n 0, 1) := by decide +kernel
theorem dX7_work_188 : decode cX7_work 188 = .ok (.iconst 3, 1) := by decide +kernel
theorem dX7_work_189 : decode cX7_work 189 = .ok (.invokevirtual 76, 3) := by decide +kernel
theorem dX7_work_192 : decode cX7_work 192 = .ok (.ireturn, 1) := by decide +kernel
theorem dX7_work_193 : decode cX7_work 193 = .ok (.goto (-63), 3) := by decide +kernel
theorem dX7_work_196 : decode cX7_work 196 = .ok (.bipush 10, 2) := by decide +kernel
theorem dX7_work_198 : decode cX7_work 198 = .ok (.iconst 3, 1) := by decide +kernel
theorem dX7_work_199 : decode cX7_work 199 = .ok (.aload 4, 2) := by decide +kernel
theorem dX7_work_201 : decode cX7_work 201 = .ok (.bipush 6, 2) := by decide +kernel
theorem dX7_work_203 : decode cX7_work 203 = .ok (.iaload, 1) := by decide +kernel
theorem dX7_work_204 : decode cX7_work 204 = .ok (.imul, 1) := by decide +kernel
theorem dX7_work_205 : decode cX7_work 205 = .ok (.iadd, 1) := by decide +kernel
theorem dX7_work_206 : decode cX7_work 206 = .ok (.istore 6, 2) := by decide +kernel
theorem dX7_work_208 : decode cX7_work 208 = .ok (.aload 4, 2) := by decide +kernel
theorem dX7_work_210 : decode cX7_work 210 = .ok (.iload 6, 2) := by decide +kernel
theorem dX7_work_212 : decode cX7_work 212 = .ok (.iload_n 2, 1) := by decide +kernel
theorem dX7_work_213 : decode cX7_work 213 = .ok (.iastore, 1) := by decide +kernel
theorem dX7_work_214 : decode cX7_work 214 = .ok (.aload 4, 2) := by decide +kernel
theorem dX7_work_216 : decode cX7_work 216 = .ok (.iload 6, 2) := by decide +kernel
theorem dX7_work_218 : decode cX7_work 218 = .ok (.iconst 1, 1) := by decide +kernel
theorem dX7_work_219 : decode cX7_work 219 = .ok (.iadd, 1) := by decide +kernel
theorem dX7_work_220 : decode cX7_work 220 = .ok (.iload_n 3, 1) := by decide +kernel
theorem dX7_work_221 : decode cX7_work 221 = .ok (.iastore, 1) := by decide +kernel
theorem dX7_work_222 : decode cX7_work 222 = .ok (.aload 4, 2) := by decide +kernel
theorem dX7_work_224 : decode cX7_work 224 = .ok (.iload 6, 2) := by decide +kernel
theorem dX7_work_226 : decode cX7_work 226 = .ok (.iconst 2, 1) := by decide +kernel
theorem dX7_work_227 : decode cX7_work 227 = .ok (.iadd, 1) := by decide +kernel
theorem dX7_work_228 : decode cX7_work 228 = .ok (.iload 5, 2) := by decide +kernel
theorem dX7_work_230 : decode cX7_work 230 = .ok (.iastore, 1) := by decide +kernel
theorem dX7_work_231 : decode cX7_work 231 = .ok (.aload 4, 2) := by decide +kernel
theorem dX7_work_233 : decode cX7_work 233 = .ok (.bipush 6, 2) := by decide +kernel
theorem dX7_work_235 : decode cX7_work 235 = .ok (.dup2, 1) := by decide +kernel
theorem dX7_work_236 : decode cX7_work 236 = .ok (.iaload, 1) := by decide +kernel
theorem dX7_work_237 : decode cX7_work 237 = .ok (.iconst 1, 1) := by decide +kernel
theorem dX7_work_238 : decode cX7_work 238 = .ok (.iadd, 1) := by decide +kernel
theorem dX7_work_239 : decode cX7_work 239 = .ok (.iastore, 1) := by decide +kernel
theorem dX7_work_240 : decode cX7_work 240 = .ok (.aload 4, 2) := by decide +kernel
theorem dX7_work_242 : decode cX7_work 242 = .ok (.bipush 7, 2) := by decide +kernel
theorem dX7_work_244 : decode cX7_work 244 = .ok (.dup2, 1) := by decide +kernel
theorem dX7_work_245 : decode cX7_work 245 = .ok (.iaload, 1) := by decide +kernel
theorem dX7_work_246 : decode cX7_work 246 = .ok (.iload 5, 2) := by decide +kernel
theorem dX7_work_248 : decode cX7_work 248 = .ok (.iadd, 1) := by decide +kernel
theorem dX7_work_249 : decode cX7_work 249 = .ok (.iastore, 1) := by decide +kernel
theorem dX7_work_250 : decode cX7_work 250 = .ok (.aload 4, 2) := by decide +kernel
theorem dX7_work_252 : decode cX7_work 252 = .ok (.bipush 7, 2) := by decide +kernel
theorem dX7_work_254 : decode cX7_work 254 = .ok (.iaload, 1) := by decide +kernel
theorem dX7_work_255 : decode cX7_work 255 = .ok (.ireturn, 1) := by decide +kernel
theorem dX7_cancel_0 : decode cX7_cancel 0 = .ok (.aload_n 0, 1) := by decide +kernel
theorem dX7_cancel_1 : decode cX7_cancel 1 = .ok (.iconst 0, 1) := by decide +kernel
theorem dX7_cancel_2 : decode cX7_cancel 2 = .ok (.putfield 31, 3) := by decide +kernel
theorem dX7_cancel_5 : decode cX7_cancel 5 = .ok (.aload_n 0, 1) := by decide +kernel
theorem dX7_cancel_6 : decode cX7_cancel 6 = .ok (.iload_n 1, 1) := by decide +kernel
theorem dX7_cancel_7 : decode cX7_cancel 7 = .ok (.invokevirtual 136, 3) := by decide +kernel
theorem dX7_cancel_10 : decode cX7_cancel 10 = .ok (.ifCond .ne 9, 3) := by decide +kernel
theorem dX7_cancel_13 : decode cX7_cancel 13 = .ok (.aload_n 0, 1) := by decide +kernel
theorem dX7_cancel_14 : decode cX7_cancel 14 = .ok (.iconst 1, 1) := by decide +kernel
theorem dX7_cancel_15 : decode cX7_cancel 15 = .ok (.invokevirtual 76, 3) := by decide +kernel
theorem dX7_cancel_18 : decode cX7_cancel 18 = .ok (.ireturn, 1) := by decide +kernel
theorem dX7_cancel_19 : decode cX7_cancel 19 = .ok (.aload_n 0, 1) := by decide +kernel
theorem dX7_cancel_20 : decode cX7_cancel 20 = .ok (.getfield 21, 3) := by decide +kernel
theorem dX7_cancel_23 : decode cX7_cancel 23 = .ok (.iload_n 1, 1) := by decide +kernel
theorem dX7_cancel_24 : decode cX7_cancel 24 = .ok (.invokevirtual 52, 3) := by decide +kernel
theorem dX7_cancel_27 : decode cX7_cancel 27 = .ok (.checkcast 56, 3) := by decide +kernel
theorem dX7_cancel_30 : decode cX7_cancel 30 = .ok (.astore_n 2, 1) := by decide +kernel
theorem dX7_cancel_31 : decode cX7_cancel 31 = .ok (.aload_n 2, 1) := by decide +kernel
theorem dX7_cancel_32 : decode cX7_cancel 32 = .ok (.iconst 0, 1) := by decide +kernel
theorem dX7_cancel_33 : decode cX7_cancel 33 = .ok (.iaload, 1) := by decide +kernel
theorem dX7_cancel_34 : decode cX7_cancel 34 = .ok (.ifCond .eq 9, 3) := by decide +kernel
theorem dX7_cancel_37 : decode cX7_cancel 37 = .ok (.aload_n 0, 1) := by decide +kernel
theorem dX7_cancel_38 : decode cX7_cancel 38 = .ok (.iconst 2, 1) := by decide +kernel
theorem dX7_cancel_39 : decode cX7_cancel 39 = .ok (.invokevirtual 76, 3) := by decide +kernel
theorem dX7_cancel_42 : decode cX7_cancel 42 = .ok (.ireturn, 1) := by decide +kernel
theorem dX7_cancel_43 : decode cX7_cancel 43 = .ok (.aload_n 2, 1) := by decide +kernel
theorem dX7_cancel_44 : decode cX7_cancel 44 = .ok (.iconst 0, 1) := by decide +kernel
theorem dX7_cancel_45 : decode cX7_cancel 45 = .ok (.iconst 4, 1) := by decide +kernel
theorem dX7_cancel_46 : decode cX7_cancel 46 = .ok (.iastore, 1) := by decide +kernel
theorem dX7_cancel_47 : decode cX7_cancel 47 = .ok (.aload_n 2, 1) := by decide +kernel
theorem dX7_cancel_48 : decode cX7_cancel 48 = .ok (.iconst 4, 1) := by decide +kernel
theorem dX7_cancel_49 : decode cX7_cancel 49 = .ok (.iaload, 1) := by decide +kernel
theorem dX7_cancel_50 : decode cX7_cancel 50 = .ok (.aload_n 0, 1) := by decide +kernel
theorem dX7_cancel_51 : decode cX7_cancel 51 = .ok (.getfield 93, 3) := by decide +kernel
theorem dX7_cancel_54 : decode cX7_cancel 54 = .ok (.isub, 1) := by decide +kernel
theorem dX7_cancel_55 : decode cX7_cancel 55 = .ok (.iconst 5, 1) := by decide +kernel
theorem dX7_cancel_56 : decode cX7_cancel 56 = .ok (.if_icmp .ge 12, 3) := by decide +kernel
theorem dX7_cancel_59 : decode cX7_cancel 59 = .ok (.bipush 10, 2) := by decide +kernel
theorem dX7_cancel_61 : decode cX7_cancel 61 = .ok (.aload_n 2, 1) := by decide +kernel
theorem dX7_cancel_62 : decode cX7_cancel 62 = .ok (.iconst 5, 1) := by decide +kernel
theorem dX7_cancel_63 : decode cX7_cancel 63 = .ok (.iaload, 1) := by decide +kernel
theorem dX7_cancel_64 : decode cX7_cancel 64 = .ok (.imul, 1) := by decide +kernel
theorem dX7_cancel_65 : decode cX7_cancel 65 = .ok (.goto 4, 3) := by decide +kernel
theorem dX7_cancel_68 : decode cX7_cancel 68 = .ok (.iconst 0, 1) := by decide +kernel
theorem dX7_cancel_69 : decode cX7_cancel 69 = .ok (.istore_n 3, 1) := by decide +kernel
theorem dX7_cancel_70 : decode cX7_cancel 70 = .ok (.aload_n 0, 1) := by decide +kernel
theorem dX7_cancel_71 : decode cX7_cancel 71 = .ok (.dup, 1) := by decide +kernel
theorem dX7_cancel_72 : decode cX7_cancel 72 = .ok (.getfield 103, 3) := by decide +kernel
theorem dX7_cancel_75 : decode cX7_cancel 75 = .ok (.iload_n 3, 1) := by decide +kernel
theorem dX7_cancel_76 : decode cX7_cancel 76 = .ok (.iadd, 1) := by decide +kernel
theorem dX7_cancel_77 : decode cX7_cancel 77 = .ok (.putfield 103, 3) := by decide +kernel
theorem dX7_cancel_80 : decode cX7_cancel 80 = .ok (.iload_n 3, 1) := by decide +kernel
theorem dX7_cancel_81 : decode cX7_cancel 81 = .ok (.ireturn, 1) := by decide +kernel
theorem dX7_mark_0 : decode cX7_mark 0 = .ok (.aload_n 0, 1) := by decide +kernel
theorem dX7_mark_1 : decode cX7_mark 1 = .ok (.iconst 0, 1) := by decide +kernel
theorem dX7_mark_2 : decode cX7_mark 2 = .ok (.putfield 31, 3) := by decide +kernel
theorem dX7_mark_5 : decode cX7_mark 5 = .ok (.aload_n 0, 1) := by decide +kernel
theorem dX7_mark_6 : decode cX7_mark 6 = .ok (.iload_n 1, 1) := by decide +kernel
theorem dX7_mark_7 : decode cX7_mark 7 = .ok (.invokevirtual 136, 3) := by decide +kernel
theorem dX7_mark_10 : decode cX7_mark 10 = .ok (.ifCond .eq 12, 3) := by decide +kernel
theorem dX7_mark_13 : decode cX7_mark 13 = .ok (.iload_n 2, 1) := by decide +kernel
theorem dX7_mark_14 : decode cX7_mark 14 = .ok (.iconst 0, 1) := by decide +kernel
theorem dX7_mark_15 : decode cX7_mark 15 = .ok (.iconst 1, 1) := by decide +kernel
theorem dX7_mark_16 : decode cX7_mark 16 = .ok (.invokestatic 68, 3) := by decide +kernel
theorem dX7_mark_19 : decode cX7_mark 19 = .ok (.ifCond .ne 9, 3) := by decide +kernel
theorem dX7_mark_22 : decode cX7_mark 22 = .ok (.aload_n 0, 1) := by decide +kernel
theorem dX7_mark_23 : decode cX7_mark 23 = .ok (.iconst 1, 1) := by decide +kernel
theorem dX7_mark_24 : decode cX7_mark 24 = .ok (.invokevirtual 76, 3) := by decide +kernel
theorem dX7_mark_27 : decode cX7_mark 27 = .ok (.ireturn, 1) := by decide +kernel
theorem dX7_mark_28 : decode cX7_mark 28 = .ok (.aload_n 0, 1) := by decide +kernel
theorem dX7_mark_29 : decode cX7_mark 29 = .ok (.getfield 21, 3) := by decide +kernel
theorem dX7_mark_32 : decode cX7_mark 32 = .ok (.iload_n 1, 1) := by decide +kernel
theorem dX7_mark_33 : decode cX7_mark 33 = .ok (.invokevirtual 52, 3) := by decide +kernel
theorem dX7_mark_36 : decode cX7_mark 36 = .ok (.checkcast 56, 3) := by decide +kernel
theorem dX7_mark_39 : decode cX7_mark 39 = .ok (.astore_n 3, 1) := by decide +kernel
theorem dX7_mark_40 : decode cX7_mark 40 = .ok (.aload_n 3, 1) := by decide +kernel
theorem dX7_mark_41 : decode cX7_mark 41 = .ok (.iconst 0, 1) := by decide +kernel
theorem dX7_mark_42 : decode cX7_mark 42 = .ok (.iaload, 1) := by decide +kernel
theorem dX7_mark_43 : decode cX7_mark 43 = .ok (.ifCond .ne 25, 3) := by decide +kernel
theorem dX7_mark_46 : decode cX7_mark 46 = .ok (.aload_n 3, 1) := by decide +kernel
theorem dX7_mark_47 : decode cX7_mark 47 = .ok (.iconst 4, 1) := by decide +kernel
theorem dX7_mark_48 : decode cX7_mark 48 = .ok (.iaload, 1) := by decide +kernel
theorem dX7_mark_49 : decode cX7_mark 49 = .ok (.aload_n 0, 1) := by decide +kernel
theorem dX7_mark_50 : decode cX7_mark 50 = .ok (.getfield 93, 3) := by decide +kernel
theorem dX7_mark_53 : decode cX7_mark 53 = .ok (.if_icmp .ne 15, 3) := by decide +kernel
theorem dX7_mark_56 : decode cX7_mark 56 = .ok (.aload_n 3, 1) := by decide +kernel
theorem dX7_mark_57 : decode cX7_mark 57 = .ok (.bipush 8, 2) := by decide +kernel
theorem dX7_mark_59 : decode cX7_mark 59 = .ok (.iaload, 1) := by decide +kernel
theorem dX7_mark_60 : decode cX7_mark 60 = .ok (.iload_n 2, 1) := by decide +kernel
theorem dX7_mark_61 : decode cX7_mark 61 = .ok (.ishr, 1) := by decide +kernel
theorem dX7_mark_62 : decode cX7_mark 62 = .ok (.iconst 1, 1) := by decide +kernel
theorem dX7_mark_63 : decode cX7_mark 63 = .ok (.iand, 1) := by decide +kernel
theorem dX7_mark_64 : decode cX7_mark 64 = .ok (.iconst 1, 1) := by decide +kernel
theorem dX7_mark_65 : decode cX7_mark 65 = .ok (.if_icmp .ne 9, 3) := by decide +kernel
theorem dX7_mark_68 : decode cX7_mark 68 = .ok (.aload_n 0, 1) := by decide +kernel
theorem dX7_mark_69 : decode cX7_mark 69 = .ok (.iconst 2, 1) := by decide +kernel
theorem dX7_mark_70 : decode cX7_mark 70 = .ok (.invokevirtual 76, 3) := by decide +kernel
theorem dX7_mark_73 : decode cX7_mark 73 = .ok (.ireturn, 1) := by decide +kernel
theorem dX7_mark_74 : decode cX7_mark 74 = .ok (.aload_n 3, 1) := by decide +kernel
theorem dX7_mark_75 : decode cX7_mark 75 = .ok (.bipush 8, 2) := by decide +kernel
theorem dX7_mark_77 : decode cX7_mark 77 = .ok (.dup2, 1) := by decide +kernel
theorem dX7_mark_78 : decode cX7_mark 78 = .ok (.iaload, 1) := by decide +kernel
theorem dX7_mark_79 : decode cX7_mark 79 = .ok (.iconst 1, 1) := by decide +kernel
theorem dX7_mark_80 : decode cX7_mark 80 = .ok (.iload_n 2, 1) := by decide +kernel
theorem dX7_mark_81 : decode cX7_mark 81 = .ok (.ishl, 1) := by decide +kernel
theorem dX7_mark_82 : decode cX7_mark 82 = .ok (.ior, 1) := by decide +kernel
theorem dX7_mark_83 : decode cX7_mark 83 = .ok (.iastore, 1) := by decide +kernel
theorem dX7_mark_84 : decode cX7_mark 84 = .ok (.aload_n 3, 1) := by decide +kernel
theorem dX7_mark_85 : decode cX7_mark 85 = .ok (.bipush 8, 2) := by decide +kernel
theorem dX7_mark_87 : decode cX7_mark 87 = .ok (.iaload, 1) := by decide +kernel
theorem dX7_mark_88 : decode cX7_mark 88 = .ok (.invokestatic 145, 3) := by decide +kernel
theorem dX7_mark_91 : decode cX7_mark 91 = .ok (.ireturn, 1) := by decide +kernel
theorem dX7_take_0 : decode cX7_take 0 = .ok (.aload_n 0, 1) := by decide +kernel
theorem dX7_take_1 : decode cX7_take 1 = .ok (.iconst 0, 1) := by decide +kernel
theorem dX7_take_2 : decode cX7_take 2 = .ok (.putfield 31, 3) := by decide +kernel
theorem dX7_take_5 : decode cX7_take 5 = .ok (.aload_n 0, 1) := by decide +kernel
theorem dX7_take_6 : decode cX7_take 6 = .ok (.iload_n 1, 1) := by decide +kernel
theorem dX7_take_7 : decode cX7_take 7 = .ok (.invokevirtual 136, 3) := by decide +kernel
theorem dX7_take_10 : decode cX7_take 10 = .ok (.ifCond .ne 9, 3) := by decide +kernel
theorem dX7_take_13 : decode cX7_take 13 = .ok (.aload_n 0, 1) := by decide +kernel
theorem dX7_take_14 : decode cX7_take 14 = .ok (.iconst 1, 1) := by decide +kernel
theorem dX7_take_15 : decode cX7_take 15 = .ok (.invokevirtual 76, 3) := by decide +kernel
theorem dX7_take_18 : decode cX7_take 18 = .ok (.ireturn, 1) := by decide +kernel
theorem dX7_take_19 : decode cX7_take 19 = .ok (.aload_n 0, 1) := by decide +kernel
theorem dX7_take_20 : decode cX7_take 20 = .ok (.getfield 21, 3) := by decide +kernel
theorem dX7_take_23 : decode cX7_take 23 = .ok (.iload_n 1, 1) := by decide +kernel
theorem dX7_take_24 : decode cX7_take 24 = .ok (.invokevirtual 52, 3) := by decide +kernel
theorem dX7_take_27 : decode cX7_take 27 = .ok (.checkcast 56, 3) := by decide +kernel
theorem dX7_take_30 : decode cX7_take 30 = .ok (.astore_n 2, 1) := by decide +kernel
theorem dX7_take_31 : decode cX7_take 31 = .ok (.aload_n 2, 1) := by decide +kernel
theorem dX7_take_32 : decode cX7_take 32 = .ok (.iconst 0, 1) := by decide +kernel
theorem dX7_take_33 : decode cX7_take 33 = .ok (.iaload, 1) := by decide +kernel
theorem dX7_take_34 : decode cX7_take 34 = .ok (.ifCond .ne 11, 3) := by decide +kernel
theorem dX7_take_37 : decode cX7_take 37 = .ok (.aload_n 2, 1) := by decide +kernel
theorem dX7_take_38 : decode cX7_take 38 = .ok (.bipush 8, 2) := by decide +kernel
theorem dX7_take_40 : decode cX7_take 40 = .ok (.iaload, 1) := by decide +kernel
theorem dX7_take_41 : decode cX7_take 41 = .ok (.iconst 3, 1) := by decide +kernel
theorem dX7_take_42 : decode cX7_take 42 = .ok (.if_icmp .eq 9, 3) := by decide +kernel
theorem dX7_take_45 : decode cX7_take 45 = .ok (.aload_n 0, 1) := by decide +kernel
theorem dX7_take_46 : decode cX7_take 46 = .ok (.iconst 2, 1) := by decide +kernel
theorem dX7_take_47 : decode cX7_take 47 = .ok (.invokevirtual 76, 3) := by decide +kernel
theorem dX7_take_50 : decode cX7_take 50 = .ok (.ireturn, 1) := by decide +kernel
theorem dX7_take_51 : decode cX7_take 51 = .ok (.aload_n 2, 1) := by decide +kernel
theorem dX7_take_52 : decode cX7_take 52 = .ok (.iconst 0, 1) := by decide +kernel
theorem dX7_take_53 : decode cX7_take 53 = .ok (.iconst 1, 1) := by decide +kernel
theorem dX7_take_54 : decode cX7_take 54 = .ok (.iastore, 1) := by decide +kernel
theorem dX7_take_55 : decode cX7_take 55 = .ok (.aload_n 2, 1) := by decide +kernel
theorem dX7_take_56 : decode cX7_take 56 = .ok (.iconst 3, 1) := by decide +kernel
theorem dX7_take_57 : decode cX7_take 57 = .ok (.iaload, 1) := by decide +kernel
theorem dX7_take_58 : decode cX7_take 58 = .ok (.aload_n 2, 1) := by decide +kernel
theorem dX7_take_59 : decode cX7_take 59 = .ok (.iconst 2, 1) := by decide +kernel
theorem dX7_take_60 : decode cX7_take 60 = .ok (.iaload, 1) := by decide +kernel
theorem dX7_take_61 : decode cX7_take 61 = .ok (.isub, 1) := by decide +kernel
theorem dX7_take_62 : decode cX7_take 62 = .ok (.iconst 1, 1) := by decide +kernel
theorem dX7_take_63 : decode cX7_take 63 = .ok (.iadd, 1) := by decide +kernel
theorem dX7_take_64 : decode cX7_take 64 = .ok (.ireturn, 1) := by decide +kernel
theorem dX7_took_0 : decode cX7_took 0 = .ok (.iconst 0, 1) := by decide +kernel
theorem dX7_took_1 : decode cX7_took 1 = .ok (.istore_n 2, 1) := by decide +kernel
theorem dX7_took_2 : decode cX7_took 2 = .ok (.iconst 0, 1) := by decide +kernel
theorem dX7_took_3 : decode cX7_took 3 = .ok (.istore_n 3, 1) := by decide +kernel
theorem dX7_took_4 : decode cX7_took 4 = .ok (.iload_n 3, 1) := by decide +kernel
theorem dX7_took_5 : decode cX7_took 5 = .ok (.aload_n 0, 1) := by decide +kernel
theorem dX7_took_6 : decode cX7_took 6 = .ok (.bipush 6, 2) := by decide +kernel
theorem dX7_took_8 : decode cX7_took 8 = .ok (.iaload, 1) := by decide +kernel
theorem dX7_took_9 : decode cX7_took 9 = .ok (.if_icmp .ge 86, 3) := by decide +kernel
theorem dX7_took_12 : decode cX7_took 12 = .ok (.aload_n 0, 1) := by decide +kernel
theorem dX7_took_13 : decode cX7_took 13 = .ok (.bipush 10, 2) := by decide +kernel
theorem dX7_took_15 : decode cX7_took 15 = .ok (.iconst 3, 1) := by decide +kernel
theorem dX7_took_16 : decode cX7_took 16 = .ok (.iload_n 3, 1) := by decide +kernel
theorem dX7_took_17 : decode cX7_took 17 = .ok (.imul, 1) := by decide +kernel
theorem dX7_took_18 : decode cX7_took 18 = .ok (.iadd, 1) := by decide +kernel
theorem dX7_took_19 : decode cX7_took 19 = .ok (.iconst 1, 1) := by decide +kernel
theorem dX7_took_20 : decode cX7_took 20 = .ok (.iadd, 1) := by decide +kernel
theorem dX7_took_21 : decode cX7_took 21 = .ok (.iaload, 1) := by decide +kernel
theorem dX7_took_22 : decode cX7_took 22 = .ok (.istore 4, 2) := by decide +kernel
theorem dX7_took_24 : decode cX7_took 24 = .ok (.aload_n 0, 1) := by decide +kernel
theorem dX7_took_25 : decode cX7_took 25 = .ok (.bipush 10, 2) := by decide +kernel
theorem dX7_took_27 : decode cX7_took 27 = .ok (.iconst 3, 1) := by decide +kernel
theorem dX7_took_28 : decode cX7_took 28 = .ok (.iload_n 3, 1) := by decide +kernel
theorem dX7_took_29 : decode cX7_took 29 = .ok (.imul, 1) := by decide +kernel
theorem dX7_took_30 : decode cX7_took 30 = .ok (.iadd, 1) := by decide +kernel
theorem dX7_took_31 : decode cX7_took 31 = .ok (.iconst 2, 1) := by decide +kernel
theorem dX7_took_32 : decode cX7_took 32 = .ok (.iadd, 1) := by decide +kernel
theorem dX7_took_33 : decode cX7_took 33 = .ok (.iaload, 1) := by decide +kernel
theorem dX7_took_34 : decode cX7_took 34 = .ok (.istore 5, 2) := by decide +kernel
theorem dX7_took_36 : decode cX7_took 36 = .ok (.aload_n 1, 1) := by decide +kernel
theorem dX7_took_37 : decode cX7_took 37 = .ok (.iload 4, 2) := by decide +kernel
theorem dX7_took_39 : decode cX7_took 39 = .ok (.iaload, 1) := by decide +kernel
theorem dX7_took_40 : decode cX7_took 40 = .ok (.iload 5, 2) := by decide +kernel
theorem dX7_took_42 : decode cX7_took 42 = .ok (.if_icmp .lt 7, 3) := by decide +kernel
theorem dX7_took_45 : decode cX7_took 45 = .ok (.iconst 1, 1) := by decide +kernel
theorem dX7_took_46 : decode cX7_took 46 = .ok (.goto 4, 3) := by decide +kernel
theorem dX7_took_49 : decode cX7_took 49 = .ok (.iconst 0, 1) := by decide +kernel
theorem dX7_took_50 : decode cX7_took 50 = .ok (.istore 6, 2) := by decide +kernel
theorem dX7_took_52 : decode cX7_took 52 = .ok (.iload_n 2, 1) := by decide +kernel
theorem dX7_took_53 : decode cX7_took 53 = .ok (.iload 6, 2) := by decide +kernel
theorem dX7_took_55 : decode cX7_took 55 = .ok (.ifCond .eq 8, 3) := by decide +kernel
theorem dX7_took_58 : decode cX7_took 58 = .ok (.iload 5, 2) := by decide +kernel
theorem dX7_took_60 : decode cX7_took 60 = .ok (.goto 7, 3) := by decide +kernel
theorem dX7_took_63 : decode cX7_took 63 = .ok (.iload 5, 2) := by decide +kernel
theorem dX7_took_65 : decode cX7_took 65 = .ok (.iconst 2, 1) := by decide +kernel
theorem dX7_took_66 : decode cX7_took 66 = .ok (.iadd, 1) := by decide +kernel
theorem dX7_took_67 : decode cX7_took 67 = .ok (.iadd, 1) := by decide +kernel
theorem dX7_took_68 : decode cX7_took 68 = .ok (.istore_n 2, 1) := by decide +kernel
theorem dX7_took_69 : decode cX7_took 69 = .ok (.aload_n 1, 1) := by decide +kernel
theorem dX7_took_70 : decode cX7_took 70 = .ok (.iload 4, 2) := by decide +kernel
theorem dX7_took_72 : decode cX7_took 72 = .ok (.iload 6, 2) := by decide +kernel
theorem dX7_took_74 : decode cX7_took 74 = .ok (.ifCond .eq 13, 3) := by decide +kernel
theorem dX7_took_77 : decode cX7_took 77 = .ok (.aload_n 1, 1) := by decide +kernel
theorem dX7_took_78 : decode cX7_took 78 = .ok (.iload 4, 2) := by decide +kernel
theorem dX7_took_80 : decode cX7_took 80 = .ok (.iaload, 1) := by decide +kernel
theorem dX7_took_81 : decode cX7_took 81 = .ok (.iload 5, 2) := by decide +kernel
theorem dX7_took_83 : decode cX7_took 83 = .ok (.isub, 1) := by decide +kernel
theorem dX7_took_84 : decode cX7_took 84 = .ok (.goto 4, 3) := by decide +kernel
theorem dX7_took_87 : decode cX7_took 87 = .ok (.iconst 0, 1) := by decide +kernel
theorem dX7_took_88 : decode cX7_took 88 = .ok (.iastore, 1) := by decide +kernel
theorem dX7_took_89 : decode cX7_took 89 = .ok (.iinc 3 1, 3) := by decide +kernel
theorem dX7_took_92 : decode cX7_took 92 = .ok (.goto (-88), 3) := by decide +kernel
theorem dX7_took_95 : decode cX7_took 95 = .ok (.iload_n 2, 1) := by decide +kernel
theorem dX7_took_96 : decode cX7_took 96 = .ok (.ireturn, 1) := by decide +kernel
theorem dX7_lives_0 : decode cX7_lives 0 = .ok (.iconst 4, 1) := by decide +kernel
theorem dX7_lives_1 : decode cX7_lives 1 = .ok (.newarray .int, 2) := by decide +kernel
theorem dX7_lives_3 : decode cX7_lives 3 = .ok (.astore_n 1, 1) := by decide +kernel
theorem dX7_lives_4 : decode cX7_lives 4 = .ok (.iconst 0, 1) := by decide +kernel
theorem dX7_lives_5 : decode cX7_lives 5 = .ok (.istore_n 2, 1) := by decide +kernel
theorem dX7_lives_6 : decode cX7_lives 6 = .ok (.iload_n 2, 1) := by decide +kernel
theorem dX7_lives_7 : decode cX7_lives 7 = .ok (.aload_n 0, 1) := by decide +kernel
theorem dX7_lives_8 : decode cX7_lives 8 = .ok (.getfield 17, 3) := by decide +kernel
theorem dX7_lives_11 : decode cX7_lives 11 = .ok (.invokevirtual 64, 3) := by decide +kernel
theorem dX7_lives_14 : decode cX7_lives 14 = .ok (.if_icmp .ge 25, 3) := by decide +kernel
theorem dX7_lives_17 : decode cX7_lives 17 = .ok (.aload_n 1, 1) := by decide +kernel
theorem dX7_lives_18 : decode cX7_lives 18 = .ok (.iload_n 2, 1) := by decide +kernel
theorem dX7_lives_19 : decode cX7_lives 19 = .ok (.aload_n 0, 1) := by decide +kernel
theorem dX7_lives_20 : decode cX7_lives 20 = .ok (.getfield 17, 3) := by decide +kernel
theorem dX7_lives_23 : decode cX7_lives 23 = .ok (.iload_n 2, 1) := by decide +kernel
theorem dX7_lives_24 : decode cX7_lives 24 = .ok (.invokevirtual 52, 3) := by decide +kernel
theorem dX7_lives_27 : decode cX7_lives 27 = .ok (.checkcast 56, 3) := by decide +kernel
theorem dX7_lives_30 : decode cX7_lives 30 = .ok (.iconst 1, 1) := by decide +kernel
theorem dX7_lives_31 : decode cX7_lives 31 = .ok (.iaload, 1) := by decide +kernel
theorem dX7_lives_32 : decode cX7_lives 32 = .ok (.iastore, 1) := by decide +kernel
theorem dX7_lives_33 : decode cX7_lives 33 = .ok (.iinc 2 1, 3) := by decide +kernel
theorem dX7_lives_36 : decode cX7_lives 36 = .ok (.goto (-30), 3) := by decide +kernel
theorem dX7_lives_39 : decode cX7_lives 39 = .ok (.aload_n 1, 1) := by decide +kernel
theorem dX7_lives_40 : decode cX7_lives 40 = .ok (.areturn, 1) := by decide +kernel
theorem dX7_treat_0 : decode cX7_treat 0 = .ok (.iload_n 1, 1) := by decide +kernel
theorem dX7_treat_1 : decode cX7_treat 1 = .ok (.ifCond .ne 20, 3) := by decide +kernel
theorem dX7_treat_4 : decode cX7_treat 4 = .ok (.aload_n 0, 1) := by decide +kernel
theorem dX7_treat_5 : decode cX7_treat 5 = .ok (.iconst 2, 1) := by decide +kernel
theorem dX7_treat_6 : decode cX7_treat 6 = .ok (.dup2, 1) := by decide +kernel
theorem dX7_treat_7 : decode cX7_treat 7 = .ok (.iaload, 1) := by decide +kernel
theorem dX7_treat_8 : decode cX7_treat 8 = .ok (.iconst 4, 1) := by decide +kernel
theorem dX7_treat_9 : decode cX7_treat 9 = .ok (.idiv, 1) := by decide +kernel
theorem dX7_treat_10 : decode cX7_treat 10 = .ok (.iastore, 1) := by decide +kernel
theorem dX7_treat_11 : decode cX7_treat 11 = .ok (.aload_n 0, 1) := by decide +kernel
theorem dX7_treat_12 : decode cX7_treat 12 = .ok (.iconst 3, 1) := by decide +kernel
theorem dX7_treat_13 : decode cX7_treat 13 = .ok (.dup2, 1) := by decide +kernel
theorem dX7_treat_14 : decode cX7_treat 14 = .ok (.iaload, 1) := by decide +kernel
theorem dX7_treat_15 : decode cX7_treat 15 = .ok (.iconst 1, 1) := by decide +kernel
theorem dX7_treat_16 : decode cX7_treat 16 = .ok (.iadd, 1) := by decide +kernel
theorem dX7_treat_17 : decode cX7_treat 17 = .ok (.iastore, 1) := by decide +kernel
theorem dX7_treat_18 : decode cX7_treat 18 = .ok (.goto 67, 3) := by decide +kernel
theorem dX7_treat_21 : decode cX7_treat 21 = .ok (.iload_n 1, 1) := by decide +kernel
theorem dX7_treat_22 : decode cX7_treat 22 = .ok (.iconst 1, 1) := by decide +kernel
theorem dX7_treat_23 : decode cX7_treat 23 = .ok (.if_icmp .ne 32, 3) := by decide +kernel
theorem dX7_treat_26 : decode cX7_treat 26 = .ok (.aload_n 0, 1) := by decide +kernel
theorem dX7_treat_27 : decode cX7_treat 27 = .ok (.iconst 1, 1) := by decide +kernel
theorem dX7_treat_28 : decode cX7_treat 28 = .ok (.iconst 0, 1) := by decide +kernel
theorem dX7_treat_29 : decode cX7_treat 29 = .ok (.aload_n 0, 1) := by decide +kernel
theorem dX7_treat_30 : decode cX7_treat 30 = .ok (.iconst 1, 1) := by decide +kernel
theorem dX7_treat_31 : decode cX7_treat 31 = .ok (.iaload, 1) := by decide +kernel
theorem dX7_treat_32 : decode cX7_treat 32 = .ok (.bipush 8, 2) := by decide +kernel
theorem dX7_treat_34 : decode cX7_treat 34 = .ok (.isub, 1) := by decide +kernel
theorem dX7_treat_35 : decode cX7_treat 35 = .ok (.invokestatic 150, 3) := by decide +kernel
theorem dX7_treat_38 : decode cX7_treat 38 = .ok (.iastore, 1) := by decide +kernel
theorem dX7_treat_39 : decode cX7_treat 39 = .ok (.aload_n 0, 1) := by decide +kernel
theorem dX7_treat_40 : decode cX7_treat 40 = .ok (.iconst 0, 1) := by decide +kernel
theorem dX7_treat_41 : decode cX7_treat 41 = .ok (.bipush 100, 2) := by decide +kernel
theorem dX7_treat_43 : decode cX7_treat 43 = .ok (.aload_n 0, 1) := by decide +kernel
theorem dX7_treat_44 : decode cX7_treat 44 = .ok (.iconst 0, 1) := by decide +kernel
theorem dX7_treat_45 : decode cX7_treat 45 = .ok (.iaload, 1) := by decide +kernel
theorem dX7_treat_46 : decode cX7_treat 46 = .ok (.iconst 2, 1) := by decide +kernel
theorem dX7_treat_47 : decode cX7_treat 47 = .ok (.iadd, 1) := by decide +kernel
theorem dX7_treat_48 : decode cX7_treat 48 = .ok (.invokestatic 38, 3) := by decide +kernel
theorem dX7_treat_51 : decode cX7_treat 51 = .ok (.iastore, 1) := by decide +kernel
theorem dX7_treat_52 : decode cX7_treat 52 = .ok (.goto 33, 3) := by decide +kernel
theorem dX7_treat_55 : decode cX7_treat 55 = .ok (.aload_n 0, 1) := by decide +kernel
theorem dX7_treat_56 : decode cX7_treat 56 = .ok (.iconst 0, 1) := by decide +kernel
theorem dX7_treat_57 : decode cX7_treat 57 = .ok (.iconst 0, 1) := by decide +kernel
theorem dX7_treat_58 : decode cX7_treat 58 = .ok (.iastore, 1) := by decide +kernel
theorem dX7_treat_59 : decode cX7_treat 59 = .ok (.aload_n 0, 1) := by decide +kernel
theorem dX7_treat_60 : decode cX7_treat 60 = .ok (.iconst 1, 1) := by decide +kernel
theorem dX7_treat_61 : decode cX7_treat 61 = .ok (.iconst 0, 1) := by decide +kernel
theorem dX7_treat_62 : decode cX7_treat 62 = .ok (.iastore, 1) := by decide +kernel
theorem dX7_treat_63 : decode cX7_treat 63 = .ok (.aload_n 0, 1) := by decide +kernel
theorem dX7_treat_64 : decode cX7_treat 64 = .ok (.iconst 2, 1) := by decide +kernel
theorem dX7_treat_65 : decode cX7_treat 65 = .ok (.iconst 0, 1) := by decide +kernel
theorem dX7_treat_66 : decode cX7_treat 66 = .ok (.iastore, 1) := by decide +kernel
theorem dX7_treat_67 : decode cX7_treat 67 = .ok (.aload_n 0, 1) := by decide +kernel
theorem dX7_treat_68 : decode cX7_treat 68 = .ok (.iconst 3, 1) := by decide +kernel
theorem dX7_treat_69 : decode cX7_treat 69 = .ok (.iconst 0, 1) := by decide +kernel
theorem dX7_treat_70 : decode cX7_treat 70 = .ok (.iastore, 1) := by decide +kernel
theorem dX7_treat_71 : decode cX7_treat 71 = .ok (.aload_n 0, 1) := by decide +kernel
theorem dX7_treat_72 : decode cX7_treat 72 = .ok (.iconst 4, 1) := by decide +kernel
theorem dX7_treat_73 : decode cX7_treat 73 = .ok (.bipush 10, 2) := by decide +kernel
theorem dX7_treat_75 : decode cX7_treat 75 = .ok (.bipush 40, 2) := by decide +kernel
theorem dX7_treat_77 : decode cX7_treat 77 = .ok (.iload_n 2, 1) := by decide +kernel
theorem dX7_treat_78 : decode cX7_treat 78 = .ok (.invokestatic 38, 3) := by decide +kernel
theorem dX7_treat_81 : decode cX7_treat 81 = .ok (.invokestatic 150, 3) := by decide +kernel
theorem dX7_treat_84 : decode cX7_treat 84 = .ok (.iastore, 1) := by decide +kernel
theorem dX7_treat_85 : decode cX7_treat 85 = .ok (.return_, 1) := by decide +kernel
theorem dX7_give_0 : decode cX7_give 0 = .ok (.aload_n 1, 1) := by decide +kernel
theorem dX7_give_1 : decode cX7_give 1 = .ok (.aload_n 0, 1) := by decide +kernel
theorem dX7_give_2 : decode cX7_give 2 = .ok (.invokevirtual 153, 3) := by decide +kernel
theorem dX7_give_5 : decode cX7_give 5 = .ok (.invokestatic 157, 3) := by decide +kernel
theorem dX7_give_8 : decode cX7_give 8 = .ok (.istore_n 3, 1) := by decide +kernel
theorem dX7_give_9 : decode cX7_give 9 = .ok (.iconst 0, 1) := by decide +kernel
theorem dX7_give_10 : decode cX7_give 10 = .ok (.istore 4, 2) := by decide +kernel
theorem dX7_give_12 : decode cX7_give 12 = .ok (.iload 4, 2) := by decide +kernel
theorem dX7_give_14 : decode cX7_give 14 = .ok (.aload_n 1, 1) := by decide +kernel
theorem dX7_give_15 : decode cX7_give 15 = .ok (.bipush 6, 2) := by decide +kernel
theorem dX7_give_17 : decode cX7_give 17 = .ok (.iaload, 1) := by decide +kernel
theorem dX7_give_18 : decode cX7_give 18 = .ok (.if_icmp .ge 136, 3) := by decide +kernel
theorem dX7_give_21 : decode cX7_give 21 = .ok (.aload_n 0, 1) := by decide +kernel
theorem dX7_give_22 : decode cX7_give 22 = .ok (.getfield 17, 3) := by decide +kernel
theorem dX7_give_25 : decode cX7_give 25 = .ok (.aload_n 1, 1) := by decide +kernel
theorem dX7_give_26 : decode cX7_give 26 = .ok (.bipush 10, 2) := by decide +kernel
theorem dX7_give_28 : decode cX7_give 28 = .ok (.iconst 3, 1) := by decide +kernel
theorem dX7_give_29 : decode cX7_give 29 = .ok (.iload 4, 2) := by decide +kernel
theorem dX7_give_31 : decode cX7_give 31 = .ok (.imul, 1) := by decide +kernel
theorem dX7_give_32 : decode cX7_give 32 = .ok (.iadd, 1) := by decide +kernel
theorem dX7_give_33 : decode cX7_give 33 = .ok (.iconst 1, 1) := by decide +kernel
theorem dX7_give_34 : decode cX7_give 34 = .ok (.iadd, 1) := by decide +kernel
theorem dX7_give_35 : decode cX7_give 35 = .ok (.iaload, 1) := by decide +kernel
theorem dX7_give_36 : decode cX7_give 36 = .ok (.invokevirtual 52, 3) := by decide +kernel
theorem dX7_give_39 : decode cX7_give 39 = .ok (.checkcast 56, 3) := by decide +kernel
theorem dX7_give_42 : decode cX7_give 42 = .ok (.astore 5, 2) := by decide +kernel
theorem dX7_give_44 : decode cX7_give 44 = .ok (.aload_n 1, 1) := by decide +kernel
theorem dX7_give_45 : decode cX7_give 45 = .ok (.bipush 10, 2) := by decide +kernel
theorem dX7_give_47 : decode cX7_give 47 = .ok (.iconst 3, 1) := by decide +kernel
theorem dX7_give_48 : decode cX7_give 48 = .ok (.iload 4, 2) := by decide +kernel
theorem dX7_give_50 : decode cX7_give 50 = .ok (.imul, 1) := by decide +kernel
theorem dX7_give_51 : decode cX7_give 51 = .ok (.iadd, 1) := by decide +kernel
theorem dX7_give_52 : decode cX7_give 52 = .ok (.iconst 2, 1) := by decide +kernel
theorem dX7_give_53 : decode cX7_give 53 = .ok (.iadd, 1) := by decide +kernel
theorem dX7_give_54 : decode cX7_give 54 = .ok (.iaload, 1) := by decide +kernel
theorem dX7_give_55 : decode cX7_give 55 = .ok (.istore 6, 2) := by decide +kernel
theorem dX7_give_57 : decode cX7_give 57 = .ok (.aload 5, 2) := by decide +kernel
theorem dX7_give_59 : decode cX7_give 59 = .ok (.iconst 1, 1) := by decide +kernel
theorem dX7_give_60 : decode cX7_give 60 = .ok (.iaload, 1) := by decide +kernel
theorem dX7_give_61 : decode cX7_give 61 = .ok (.iload 6, 2) := by decide +kernel
theorem dX7_give_63 : decode cX7_give 63 = .ok (.if_icmp .ge 19, 3) := by decide +kernel
theorem dX7_give_66 : decode cX7_give 66 = .ok (.aload 5, 2) := by decide +kernel
theorem dX7_give_68 : decode cX7_give 68 = .ok (.iconst 1, 1) := by decide +kernel
theorem dX7_give_69 : decode cX7_give 69 = .ok (.iconst 0, 1) := by decide +kernel
theorem dX7_give_70 : decode cX7_give 70 = .ok (.iastore, 1) := by decide +kernel
theorem dX7_give_71 : decode cX7_give 71 = .ok (.aload 5, 2) := by decide +kernel
theorem dX7_give_73 : decode cX7_give 73 = .ok (.iconst 3, 1) := by decide +kernel
theorem dX7_give_74 : decode cX7_give 74 = .ok (.dup2, 1) := by decide +kernel
theorem dX7_give_75 : decode cX7_give 75 = .ok (.iaload, 1) := by decide +kernel
theorem dX7_give_76 : decode cX7_give 76 = .ok (.iconst 1, 1) := by decide +kernel
theorem dX7_give_77 : decode cX7_give 77 = .ok (.iadd, 1) := by decide +kernel
theorem dX7_give_78 : decode cX7_give 78 = .ok (.iastore, 1) := by decide +kernel
theorem dX7_give_79 : decode cX7_give 79 = .ok (.goto 69, 3) := by decide +kernel
theorem dX7_give_82 : decode cX7_give 82 = .ok (.aload 5, 2) := by decide +kernel
theorem dX7_give_84 : decode cX7_give 84 = .ok (.iconst 1, 1) := by decide +kernel
theorem dX7_give_85 : decode cX7_give 85 = .ok (.dup2, 1) := by decide +kernel
theorem dX7_give_86 : decode cX7_give 86 = .ok (.iaload, 1) := by decide +kernel
theorem dX7_give_87 : decode cX7_give 87 = .ok (.iload 6, 2) := by decide +kernel
theorem dX7_give_89 : decode cX7_give 89 = .ok (.isub, 1) := by decide +kernel
theorem dX7_give_90 : decode cX7_give 90 = .ok (.iastore, 1) := by decide +kernel
theorem dX7_give_91 : decode cX7_give 91 = .ok (.aload 5, 2) := by decide +kernel
theorem dX7_give_93 : decode cX7_give 93 = .ok (.iconst 2, 1) := by decide +kernel
theorem dX7_give_94 : decode cX7_give 94 = .ok (.dup2, 1) := by decide +kernel
theorem dX7_give_95 : decode cX7_give 95 = .ok (.iaload, 1) := by decide +kernel
theorem dX7_give_96 : decode cX7_give 96 = .ok (.iconst 1, 1) := by decide +kernel
theorem dX7_give_97 : decode cX7_give 97 = .ok (.iadd, 1) := by decide +kernel
theorem dX7_give_98 : decode cX7_give 98 = .ok (.iastore, 1) := by decide +kernel
theorem dX7_give_99 : decode cX7_give 99 = .ok (.aload_n 0, 1) := by decide +kernel
theorem dX7_give_100 : decode cX7_give 100 = .ok (.getfield 11, 3) := by decide +kernel
theorem dX7_give_103 : decode cX7_give 103 = .ok (.aload_n 1, 1) := by decide +kernel
theorem dX7_give_104 : decode cX7_give 104 = .ok (.bipush 10, 2) := by decide +kernel
theorem dX7_give_106 : decode cX7_give 106 = .ok (.iconst 3, 1) := by decide +kernel
theorem dX7_give_107 : decode cX7_give 107 = .ok (.iload 4, 2) := by decide +kernel
theorem dX7_give_109 : decode cX7_give 109 = .ok (.imul, 1) := by decide +kernel
theorem dX7_give_110 : decode cX7_give 110 = .ok (.iadd, 1) := by decide +kernel
theorem dX7_give_111 : decode cX7_give 111 = .ok (.iaload, 1) := by decide +kernel
theorem dX7_give_112 : decode cX7_give 112 = .ok (.aaload, 1) := by decide +kernel
theorem dX7_give_113 : decode cX7_give 113 = .ok (.aload 5, 2) := by decide +kernel
theorem dX7_give_115 : decode cX7_give 115 = .ok (.iconst 0, 1) := by decide +kernel
theorem dX7_give_116 : decode cX7_give 116 = .ok (.iaload, 1) := by decide +kernel
theorem dX7_give_117 : decode cX7_give 117 = .ok (.aload_n 0, 1) := by decide +kernel
theorem dX7_give_118 : decode cX7_give 118 = .ok (.getfield 27, 3) := by decide +kernel
theorem dX7_give_121 : decode cX7_give 121 = .ok (.invokestatic 161, 3) := by decide +kernel
theorem dX7_give_124 : decode cX7_give 124 = .ok (.aload_n 0, 1) := by decide +kernel
theorem dX7_give_125 : decode cX7_give 125 = .ok (.dup, 1) := by decide +kernel
theorem dX7_give_126 : decode cX7_give 126 = .ok (.getfield 103, 3) := by decide +kernel
theorem dX7_give_129 : decode cX7_give 129 = .ok (.aload 5, 2) := by decide +kernel
theorem dX7_give_131 : decode cX7_give 131 = .ok (.iconst 0, 1) := by decide +kernel
theorem dX7_give_132 : decode cX7_give 132 = .ok (.iaload, 1) := by decide +kernel
theorem dX7_give_133 : decode cX7_give 133 = .ok (.iconst 2, 1) := by decide +kernel
theorem dX7_give_134 : decode cX7_give 134 = .ok (.if_icmp .ne 9, 3) := by decide +kernel
theorem dX7_give_137 : decode cX7_give 137 = .ok (.sipush 300, 3) := by decide +kernel
theorem dX7_give_140 : decode cX7_give 140 = .ok (.goto 4, 3) := by decide +kernel
theorem dX7_give_143 : decode cX7_give 143 = .ok (.iconst 0, 1) := by decide +kernel
theorem dX7_give_144 : decode cX7_give 144 = .ok (.iadd, 1) := by decide +kernel
theorem dX7_give_145 : decode cX7_give 145 = .ok (.putfield 103, 3) := by decide +kernel
theorem dX7_give_148 : decode cX7_give 148 = .ok (.iinc 4 1, 3) := by decide +kernel
theorem dX7_give_151 : decode cX7_give 151 = .ok (.goto (-139), 3) := by decide +kernel
theorem dX7_give_154 : decode cX7_give 154 = .ok (.aload_n 1, 1) := by decide +kernel
theorem dX7_give_155 : decode cX7_give 155 = .ok (.iconst 0, 1) := by decide +kernel
theorem dX7_give_156 : decode cX7_give 156 = .ok (.iconst 2, 1) := by decide +kernel
theorem dX7_give_157 : decode cX7_give 157 = .ok (.iastore, 1) := by decide +kernel
theorem dX7_give_158 : decode cX7_give 158 = .ok (.aload_n 1, 1) := by decide +kernel
theorem dX7_give_159 : decode cX7_give 159 = .ok (.bipush 9, 2) := by decide +kernel
theorem dX7_give_161 : decode cX7_give 161 = .ok (.iconst 0, 1) := by decide +kernel
theorem dX7_give_162 : decode cX7_give 162 = .ok (.iload_n 3, 1) := by decide +kernel
theorem dX7_give_163 : decode cX7_give 163 = .ok (.aload_n 1, 1) := by decide +kernel
theorem dX7_give_164 : decode cX7_give 164 = .ok (.iconst 5, 1) := by decide +kernel
theorem dX7_give_165 : decode cX7_give 165 = .ok (.iaload, 1) := by decide +kernel
theorem dX7_give_166 : decode cX7_give 166 = .ok (.isub, 1) := by decide +kernel
theorem dX7_give_167 : decode cX7_give 167 = .ok (.invokestatic 150, 3) := by decide +kernel
theorem dX7_give_170 : decode cX7_give 170 = .ok (.iload_n 2, 1) := by decide +kernel
theorem dX7_give_171 : decode cX7_give 171 = .ok (.iadd, 1) := by decide +kernel
theorem dX7_give_172 : decode cX7_give 172 = .ok (.iastore, 1) := by decide +kernel
theorem dX7_give_173 : decode cX7_give 173 = .ok (.aload_n 0, 1) := by decide +kernel
theorem dX7_give_174 : decode cX7_give 174 = .ok (.dup, 1) := by decide +kernel
theorem dX7_give_175 : decode cX7_give 175 = .ok (.getfield 103, 3) := by decide +kernel
theorem dX7_give_178 : decode cX7_give 178 = .ok (.bipush 20, 2) := by decide +kernel
theorem dX7_give_180 : decode cX7_give 180 = .ok (.aload_n 1, 1) := by decide +kernel
theorem dX7_give_181 : decode cX7_give 181 = .ok (.iconst 5, 1) := by decide +kernel
theorem dX7_give_182 : decode cX7_give 182 = .ok (.iaload, 1) := by decide +kernel
theorem dX7_give_183 : decode cX7_give 183 = .ok (.imul, 1) := by decide +kernel
theorem dX7_give_184 : decode cX7_give 184 = .ok (.bipush 30, 2) := by decide +kernel
theorem dX7_give_186 : decode cX7_give 186 = .ok (.iload_n 3, 1) := by decide +kernel
theorem dX7_give_187 : decode cX7_give 187 = .ok (.imul, 1) := by decide +kernel
theorem dX7_give_188 : decode cX7_give 188 = .ok (.iadd, 1) := by decide +kernel
theorem dX7_give_189 : decode cX7_give 189 = .ok (.bipush 100, 2) := by decide +kernel
theorem dX7_give_191 : decode cX7_give 191 = .ok (.aload_n 1, 1) := by decide +kernel
theorem dX7_give_192 : decode cX7_give 192 = .ok (.bipush 9, 2) := by decide +kernel
theorem dX7_give_194 : decode cX7_give 194 = .ok (.iaload, 1) := by decide +kernel
theorem dX7_give_195 : decode cX7_give 195 = .ok (.imul, 1) := by decide +kernel
theorem dX7_give_196 : decode cX7_give 196 = .ok (.iadd, 1) := by decide +kernel
theorem dX7_give_197 : decode cX7_give 197 = .ok (.iadd, 1) := by decide +kernel
theorem dX7_give_198 : decode cX7_give 198 = .ok (.putfield 103, 3) := by decide +kernel
theorem dX7_give_201 : decode cX7_give 201 = .ok (.aload_n 1, 1) := by decide +kernel
theorem dX7_give_202 : decode cX7_give 202 = .ok (.bipush 9, 2) := by decide +kernel
theorem dX7_give_204 : decode cX7_give 204 = .ok (.iaload, 1) := by decide +kernel
theorem dX7_give_205 : decode cX7_give 205 = .ok (.ireturn, 1) := by decide +kernel
theorem dX7_giveBack_0 : decode cX7_giveBack 0 = .ok (.aload_n 0, 1) := by decide +kernel
theorem dX7_giveBack_1 : decode cX7_giveBack 1 = .ok (.iconst 0, 1) := by decide +kernel
theorem dX7_giveBack_2 : decode cX7_giveBack 2 = .ok (.putfield 31, 3) := by decide +kernel
theorem dX7_giveBack_5 : decode cX7_giveBack 5 = .ok (.aload_n 0, 1) := by decide +kernel
theorem dX7_giveBack_6 : decode cX7_giveBack 6 = .ok (.iload_n 1, 1) := by decide +kernel
theorem dX7_giveBack_7 : decode cX7_giveBack 7 = .ok (.invokevirtual 136, 3) := by decide +kernel
theorem dX7_giveBack_10 : decode cX7_giveBack 10 = .ok (.ifCond .ne 9, 3) := by decide +kernel
theorem dX7_giveBack_13 : decode cX7_giveBack 13 = .ok (.aload_n 0, 1) := by decide +kernel
theorem dX7_giveBack_14 : decode cX7_giveBack 14 = .ok (.iconst 1, 1) := by decide +kernel
theorem dX7_giveBack_15 : decode cX7_giveBack 15 = .ok (.invokevirtual 76, 3) := by decide +kernel
theorem dX7_giveBack_18 : decode cX7_giveBack 18 = .ok (.ireturn, 1) := by decide +kernel
theorem dX7_giveBack_19 : decode cX7_giveBack 19 = .ok (.aload_n 0, 1) := by decide +kernel
theorem dX7_giveBack_20 : decode cX7_giveBack 20 = .ok (.getfield 21, 3) := by decide +kernel
theorem dX7_giveBack_23 : decode cX7_giveBack 23 = .ok (.iload_n 1, 1) := by decide +kernel
theorem dX7_giveBack_24 : decode cX7_giveBack 24 = .ok (.invokevirtual 52, 3) := by decide +kernel
theorem dX7_giveBack_27 : decode cX7_giveBack 27 = .ok (.checkcast 56, 3) := by decide +kernel
theorem dX7_giveBack_30 : decode cX7_giveBack 30 = .ok (.iconst 0, 1) := by decide +kernel
theorem dX7_giveBack_31 : decode cX7_giveBack 31 = .ok (.iaload, 1) := by decide +kernel
theorem dX7_giveBack_32 : decode cX7_giveBack 32 = .ok (.iconst 1, 1) := by decide +kernel
theorem dX7_giveBack_33 : decode cX7_giveBack 33 = .ok (.if_icmp .ne 22, 3) := by decide +kernel
theorem dX7_giveBack_36 : decode cX7_giveBack 36 = .ok (.aload_n 0, 1) := by decide +kernel
theorem dX7_giveBack_37 : decode cX7_giveBack 37 = .ok (.aload_n 0, 1) := by decide +kernel
theorem dX7_giveBack_38 : decode cX7_giveBack 38 = .ok (.getfield 21, 3) := by decide +kernel
theorem dX7_giveBack_41 : decode cX7_giveBack 41 = .ok (.iload_n 1, 1) := by decide +kernel
theorem dX7_giveBack_42 : decode cX7_giveBack 42 = .ok (.invokevirtual 52, 3) := by decide +kernel
theorem dX7_giveBack_45 : decode cX7_giveBack 45 = .ok (.checkcast 56, 3) := by decide +kernel
theorem dX7_giveBack_48 : decode cX7_giveBack 48 = .ok (.iconst 0, 1) := by decide +kernel
theorem dX7_giveBack_49 : decode cX7_giveBack 49 = .ok (.invokevirtual 96, 3) := by decide +kernel
theorem dX7_giveBack_52 : decode cX7_giveBack 52 = .ok (.goto 8, 3) := by decide +kernel
theorem dX7_giveBack_55 : decode cX7_giveBack 55 = .ok (.aload_n 0, 1) := by decide +kernel
theorem dX7_giveBack_56 : decode cX7_giveBack 56 = .ok (.iconst 2, 1) := by decide +kernel
theorem dX7_giveBack_57 : decode cX7_giveBack 57 = .ok (.invokevirtual 76, 3) := by decide +kernel
theorem dX7_giveBack_60 : decode cX7_giveBack 60 = .ok (.ireturn, 1) := by decide +kernel
theorem dX7_isTaken_0 : decode cX7_isTaken 0 = .ok (.iconst 0, 1) := by decide +kernel
theorem dX7_isTaken_1 : decode cX7_isTaken 1 = .ok (.istore_n 2, 1) := by decide +kernel
theorem dX7_isTaken_2 : decode cX7_isTaken 2 = .ok (.aload_n 0, 1) := by decide +kernel
theorem dX7_isTaken_3 : decode cX7_isTaken 3 = .ok (.getfield 21, 3) := by decide +kernel
theorem dX7_isTaken_6 : decode cX7_isTaken 6 = .ok (.invokevirtual 79, 3) := by decide +kernel
theorem dX7_isTaken_9 : decode cX7_isTaken 9 = .ok (.astore_n 3, 1) := by decide +kernel
theorem dX7_isTaken_10 : decode cX7_isTaken 10 = .ok (.aload_n 3, 1) := by decide +kernel
theorem dX7_isTaken_11 : decode cX7_isTaken 11 = .ok (.invokeinterface 83 1, 5) := by decide +kernel
theorem dX7_isTaken_16 : decode cX7_isTaken 16 = .ok (.ifCond .eq 43, 3) := by decide +kernel
theorem dX7_isTaken_19 : decode cX7_isTaken 19 = .ok (.aload_n 3, 1) := by decide +kernel
theorem dX7_isTaken_20 : decode cX7_isTaken 20 = .ok (.invokeinterface 89 1, 5) := by decide +kernel
theorem dX7_isTaken_25 : decode cX7_isTaken 25 = .ok (.checkcast 56, 3) := by decide +kernel
theorem dX7_isTaken_28 : decode cX7_isTaken 28 = .ok (.astore 4, 2) := by decide +kernel
theorem dX7_isTaken_30 : decode cX7_isTaken 30 = .ok (.iload_n 2, 1) := by decide +kernel
theorem dX7_isTaken_31 : decode cX7_isTaken 31 = .ok (.aload 4, 2) := by decide +kernel
theorem dX7_isTaken_33 : decode cX7_isTaken 33 = .ok (.iconst 0, 1) := by decide +kernel
