theorem dL_keep_9 : decode cL_keep 9 = .ok (.istore_n 3, 1) := by decide +kernel
theorem dL_keep_10 : decode cL_keep 10 = .ok (.iload_n 3, 1) := by decide +kernel
theorem dL_keep_11 : decode cL_keep 11 = .ok (.bipush 8, 2) := by decide +kernel
theorem dL_keep_13 : decode cL_keep 13 = .ok (.if_icmp .ge 20, 3) := by decide +kernel
theorem dL_keep_16 : decode cL_keep 16 = .ok (.aload_n 1, 1) := by decide +kernel
theorem dL_keep_17 : decode cL_keep 17 = .ok (.iload_n 2, 1) := by decide +kernel
theorem dL_keep_18 : decode cL_keep 18 = .ok (.aaload, 1) := by decide +kernel
theorem dL_keep_19 : decode cL_keep 19 = .ok (.iload_n 3, 1) := by decide +kernel
theorem dL_keep_20 : decode cL_keep 20 = .ok (.aload_n 0, 1) := by decide +kernel
theorem dL_keep_21 : decode cL_keep 21 = .ok (.iload_n 2, 1) := by decide +kernel
theorem dL_keep_22 : decode cL_keep 22 = .ok (.iload_n 3, 1) := by decide +kernel
theorem dL_keep_23 : decode cL_keep 23 = .ok (.invokevirtual 36, 3) := by decide +kernel
theorem dL_keep_26 : decode cL_keep 26 = .ok (.iastore, 1) := by decide +kernel
theorem dL_keep_27 : decode cL_keep 27 = .ok (.iinc 3 1, 3) := by decide +kernel
theorem dL_keep_30 : decode cL_keep 30 = .ok (.goto (-20), 3) := by decide +kernel
theorem dL_keep_33 : decode cL_keep 33 = .ok (.iinc 2 1, 3) := by decide +kernel
theorem dL_keep_36 : decode cL_keep 36 = .ok (.goto (-34), 3) := by decide +kernel
theorem dL_keep_39 : decode cL_keep 39 = .ok (.return_, 1) := by decide +kernel
theorem dL_work_0 : decode cL_work 0 = .ok (.aload_n 0, 1) := by decide +kernel
theorem dL_work_1 : decode cL_work 1 = .ok (.iload_n 1, 1) := by decide +kernel
theorem dL_work_2 : decode cL_work 2 = .ok (.iload_n 2, 1) := by decide +kernel
theorem dL_work_3 : decode cL_work 3 = .ok (.iload_n 3, 1) := by decide +kernel
theorem dL_work_4 : decode cL_work 4 = .ok (.invokevirtual 107, 3) := by decide +kernel
theorem dL_work_7 : decode cL_work 7 = .ok (.ireturn, 1) := by decide +kernel
theorem dL_work_8 : decode cL_work 8 = .ok (.astore 4, 2) := by decide +kernel
theorem dL_work_10 : decode cL_work 10 = .ok (.iconst (-1), 1) := by decide +kernel
theorem dL_work_11 : decode cL_work 11 = .ok (.ireturn, 1) := by decide +kernel
theorem dL_isStep_0 : decode cL_isStep 0 = .ok (.iconst 0, 1) := by decide +kernel
theorem dL_isStep_1 : decode cL_isStep 1 = .ok (.istore 6, 2) := by decide +kernel
theorem dL_isStep_3 : decode cL_isStep 3 = .ok (.iconst 0, 1) := by decide +kernel
theorem dL_isStep_4 : decode cL_isStep 4 = .ok (.istore 7, 2) := by decide +kernel
theorem dL_isStep_6 : decode cL_isStep 6 = .ok (.iload 7, 2) := by decide +kernel
theorem dL_isStep_8 : decode cL_isStep 8 = .ok (.bipush 20, 2) := by decide +kernel
theorem dL_isStep_10 : decode cL_isStep 10 = .ok (.if_icmp .ge 112, 3) := by decide +kernel
theorem dL_isStep_13 : decode cL_isStep 13 = .ok (.iload 7, 2) := by decide +kernel
theorem dL_isStep_15 : decode cL_isStep 15 = .ok (.iload 4, 2) := by decide +kernel
theorem dL_isStep_17 : decode cL_isStep 17 = .ok (.if_icmp .eq 53, 3) := by decide +kernel
theorem dL_isStep_20 : decode cL_isStep 20 = .ok (.aload_n 0, 1) := by decide +kernel
theorem dL_isStep_21 : decode cL_isStep 21 = .ok (.iload 7, 2) := by decide +kernel
theorem dL_isStep_23 : decode cL_isStep 23 = .ok (.bipush 6, 2) := by decide +kernel
theorem dL_isStep_25 : decode cL_isStep 25 = .ok (.invokevirtual 36, 3) := by decide +kernel
theorem dL_isStep_28 : decode cL_isStep 28 = .ok (.aload_n 1, 1) := by decide +kernel
theorem dL_isStep_29 : decode cL_isStep 29 = .ok (.iload 7, 2) := by decide +kernel
theorem dL_isStep_31 : decode cL_isStep 31 = .ok (.aaload, 1) := by decide +kernel
theorem dL_isStep_32 : decode cL_isStep 32 = .ok (.bipush 6, 2) := by decide +kernel
theorem dL_isStep_34 : decode cL_isStep 34 = .ok (.iaload, 1) := by decide +kernel
theorem dL_isStep_35 : decode cL_isStep 35 = .ok (.if_icmp .eq 35, 3) := by decide +kernel
theorem dL_isStep_38 : decode cL_isStep 38 = .ok (.iload_n 2, 1) := by decide +kernel
theorem dL_isStep_39 : decode cL_isStep 39 = .ok (.ifCond .eq 26, 3) := by decide +kernel
theorem dL_isStep_42 : decode cL_isStep 42 = .ok (.aload_n 0, 1) := by decide +kernel
theorem dL_isStep_43 : decode cL_isStep 43 = .ok (.iload 7, 2) := by decide +kernel
theorem dL_isStep_45 : decode cL_isStep 45 = .ok (.bipush 6, 2) := by decide +kernel
theorem dL_isStep_47 : decode cL_isStep 47 = .ok (.invokevirtual 36, 3) := by decide +kernel
theorem dL_isStep_50 : decode cL_isStep 50 = .ok (.ifCond .ne 15, 3) := by decide +kernel
theorem dL_isStep_53 : decode cL_isStep 53 = .ok (.aload_n 0, 1) := by decide +kernel
theorem dL_isStep_54 : decode cL_isStep 54 = .ok (.iload 7, 2) := by decide +kernel
theorem dL_isStep_56 : decode cL_isStep 56 = .ok (.iconst 1, 1) := by decide +kernel
theorem dL_isStep_57 : decode cL_isStep 57 = .ok (.invokevirtual 36, 3) := by decide +kernel
theorem dL_isStep_60 : decode cL_isStep 60 = .ok (.bipush 60, 2) := by decide +kernel
theorem dL_isStep_62 : decode cL_isStep 62 = .ok (.if_icmp .eq 5, 3) := by decide +kernel
theorem dL_isStep_65 : decode cL_isStep 65 = .ok (.iconst 0, 1) := by decide +kernel
theorem dL_isStep_66 : decode cL_isStep 66 = .ok (.ireturn, 1) := by decide +kernel
theorem dL_isStep_67 : decode cL_isStep 67 = .ok (.iinc 6 1, 3) := by decide +kernel
theorem dL_isStep_70 : decode cL_isStep 70 = .ok (.iload_n 2, 1) := by decide +kernel
theorem dL_isStep_71 : decode cL_isStep 71 = .ok (.ifCond .ne 45, 3) := by decide +kernel
theorem dL_isStep_74 : decode cL_isStep 74 = .ok (.iload_n 3, 1) := by decide +kernel
theorem dL_isStep_75 : decode cL_isStep 75 = .ok (.ifCond .eq 6, 3) := by decide +kernel
theorem dL_isStep_78 : decode cL_isStep 78 = .ok (.goto 38, 3) := by decide +kernel
theorem dL_isStep_81 : decode cL_isStep 81 = .ok (.iconst 0, 1) := by decide +kernel
theorem dL_isStep_82 : decode cL_isStep 82 = .ok (.istore 8, 2) := by decide +kernel
theorem dL_isStep_84 : decode cL_isStep 84 = .ok (.iload 8, 2) := by decide +kernel
theorem dL_isStep_86 : decode cL_isStep 86 = .ok (.iconst 5, 1) := by decide +kernel
theorem dL_isStep_87 : decode cL_isStep 87 = .ok (.if_icmp .ge 29, 3) := by decide +kernel
theorem dL_isStep_90 : decode cL_isStep 90 = .ok (.aload_n 0, 1) := by decide +kernel
theorem dL_isStep_91 : decode cL_isStep 91 = .ok (.iload 7, 2) := by decide +kernel
theorem dL_isStep_93 : decode cL_isStep 93 = .ok (.iload 8, 2) := by decide +kernel
theorem dL_isStep_95 : decode cL_isStep 95 = .ok (.invokevirtual 36, 3) := by decide +kernel
theorem dL_isStep_98 : decode cL_isStep 98 = .ok (.aload_n 1, 1) := by decide +kernel
theorem dL_isStep_99 : decode cL_isStep 99 = .ok (.iload 7, 2) := by decide +kernel
theorem dL_isStep_101 : decode cL_isStep 101 = .ok (.aaload, 1) := by decide +kernel
theorem dL_isStep_102 : decode cL_isStep 102 = .ok (.iload 8, 2) := by decide +kernel
theorem dL_isStep_104 : decode cL_isStep 104 = .ok (.iaload, 1) := by decide +kernel
theorem dL_isStep_105 : decode cL_isStep 105 = .ok (.if_icmp .eq 5, 3) := by decide +kernel
theorem dL_isStep_108 : decode cL_isStep 108 = .ok (.iconst 0, 1) := by decide +kernel
theorem dL_isStep_109 : decode cL_isStep 109 = .ok (.ireturn, 1) := by decide +kernel
theorem dL_isStep_110 : decode cL_isStep 110 = .ok (.iinc 8 1, 3) := by decide +kernel
theorem dL_isStep_113 : decode cL_isStep 113 = .ok (.goto (-29), 3) := by decide +kernel
theorem dL_isStep_116 : decode cL_isStep 116 = .ok (.iinc 7 1, 3) := by decide +kernel
theorem dL_isStep_119 : decode cL_isStep 119 = .ok (.goto (-113), 3) := by decide +kernel
theorem dL_isStep_122 : decode cL_isStep 122 = .ok (.iload 6, 2) := by decide +kernel
theorem dL_isStep_124 : decode cL_isStep 124 = .ok (.iload 5, 2) := by decide +kernel
theorem dL_isStep_126 : decode cL_isStep 126 = .ok (.if_icmp .ne 7, 3) := by decide +kernel
theorem dL_isStep_129 : decode cL_isStep 129 = .ok (.iconst 1, 1) := by decide +kernel
theorem dL_isStep_130 : decode cL_isStep 130 = .ok (.goto 4, 3) := by decide +kernel
theorem dL_isStep_133 : decode cL_isStep 133 = .ok (.iconst 0, 1) := by decide +kernel
theorem dL_isStep_134 : decode cL_isStep 134 = .ok (.ireturn, 1) := by decide +kernel
theorem dL_areSteps_0 : decode cL_areSteps 0 = .ok (.iconst 0, 1) := by decide +kernel
theorem dL_areSteps_1 : decode cL_areSteps 1 = .ok (.istore_n 3, 1) := by decide +kernel
theorem dL_areSteps_2 : decode cL_areSteps 2 = .ok (.iload_n 3, 1) := by decide +kernel
theorem dL_areSteps_3 : decode cL_areSteps 3 = .ok (.iload_n 2, 1) := by decide +kernel
theorem dL_areSteps_4 : decode cL_areSteps 4 = .ok (.if_icmp .ge 144, 3) := by decide +kernel
theorem dL_areSteps_7 : decode cL_areSteps 7 = .ok (.aload_n 0, 1) := by decide +kernel
theorem dL_areSteps_8 : decode cL_areSteps 8 = .ok (.iload_n 3, 1) := by decide +kernel
theorem dL_areSteps_9 : decode cL_areSteps 9 = .ok (.iconst 0, 1) := by decide +kernel
theorem dL_areSteps_10 : decode cL_areSteps 10 = .ok (.invokevirtual 58, 3) := by decide +kernel
theorem dL_areSteps_13 : decode cL_areSteps 13 = .ok (.istore 4, 2) := by decide +kernel
theorem dL_areSteps_15 : decode cL_areSteps 15 = .ok (.aload_n 1, 1) := by decide +kernel
theorem dL_areSteps_16 : decode cL_areSteps 16 = .ok (.iload_n 3, 1) := by decide +kernel
theorem dL_areSteps_17 : decode cL_areSteps 17 = .ok (.iaload, 1) := by decide +kernel
theorem dL_areSteps_18 : decode cL_areSteps 18 = .ok (.istore 5, 2) := by decide +kernel
theorem dL_areSteps_20 : decode cL_areSteps 20 = .ok (.iload 4, 2) := by decide +kernel
theorem dL_areSteps_22 : decode cL_areSteps 22 = .ok (.iload 5, 2) := by decide +kernel
theorem dL_areSteps_24 : decode cL_areSteps 24 = .ok (.if_icmp .eq 40, 3) := by decide +kernel
theorem dL_areSteps_27 : decode cL_areSteps 27 = .ok (.iload 5, 2) := by decide +kernel
theorem dL_areSteps_29 : decode cL_areSteps 29 = .ok (.ifCond .ne 21, 3) := by decide +kernel
theorem dL_areSteps_32 : decode cL_areSteps 32 = .ok (.iload 4, 2) := by decide +kernel
theorem dL_areSteps_34 : decode cL_areSteps 34 = .ok (.iconst 1, 1) := by decide +kernel
theorem dL_areSteps_35 : decode cL_areSteps 35 = .ok (.if_icmp .eq 29, 3) := by decide +kernel
theorem dL_areSteps_38 : decode cL_areSteps 38 = .ok (.iload 4, 2) := by decide +kernel
theorem dL_areSteps_40 : decode cL_areSteps 40 = .ok (.iconst 3, 1) := by decide +kernel
theorem dL_areSteps_41 : decode cL_areSteps 41 = .ok (.if_icmp .eq 23, 3) := by decide +kernel
theorem dL_areSteps_44 : decode cL_areSteps 44 = .ok (.iload 4, 2) := by decide +kernel
theorem dL_areSteps_46 : decode cL_areSteps 46 = .ok (.iconst 4, 1) := by decide +kernel
theorem dL_areSteps_47 : decode cL_areSteps 47 = .ok (.if_icmp .eq 17, 3) := by decide +kernel
theorem dL_areSteps_50 : decode cL_areSteps 50 = .ok (.iload 5, 2) := by decide +kernel
theorem dL_areSteps_52 : decode cL_areSteps 52 = .ok (.iconst 1, 1) := by decide +kernel
theorem dL_areSteps_53 : decode cL_areSteps 53 = .ok (.if_icmp .ne 9, 3) := by decide +kernel
theorem dL_areSteps_56 : decode cL_areSteps 56 = .ok (.iload 4, 2) := by decide +kernel
theorem dL_areSteps_58 : decode cL_areSteps 58 = .ok (.iconst 2, 1) := by decide +kernel
theorem dL_areSteps_59 : decode cL_areSteps 59 = .ok (.if_icmp .eq 5, 3) := by decide +kernel
theorem dL_areSteps_62 : decode cL_areSteps 62 = .ok (.iconst 0, 1) := by decide +kernel
theorem dL_areSteps_63 : decode cL_areSteps 63 = .ok (.ireturn, 1) := by decide +kernel
theorem dL_areSteps_64 : decode cL_areSteps 64 = .ok (.iload 4, 2) := by decide +kernel
theorem dL_areSteps_66 : decode cL_areSteps 66 = .ok (.iconst 3, 1) := by decide +kernel
theorem dL_areSteps_67 : decode cL_areSteps 67 = .ok (.if_icmp .ne 17, 3) := by decide +kernel
theorem dL_areSteps_70 : decode cL_areSteps 70 = .ok (.aload_n 0, 1) := by decide +kernel
theorem dL_areSteps_71 : decode cL_areSteps 71 = .ok (.iload_n 3, 1) := by decide +kernel
theorem dL_areSteps_72 : decode cL_areSteps 72 = .ok (.iconst 4, 1) := by decide +kernel
theorem dL_areSteps_73 : decode cL_areSteps 73 = .ok (.invokevirtual 58, 3) := by decide +kernel
theorem dL_areSteps_76 : decode cL_areSteps 76 = .ok (.aload_n 0, 1) := by decide +kernel
theorem dL_areSteps_77 : decode cL_areSteps 77 = .ok (.iconst 0, 1) := by decide +kernel
theorem dL_areSteps_78 : decode cL_areSteps 78 = .ok (.invokevirtual 28, 3) := by decide +kernel
theorem dL_areSteps_81 : decode cL_areSteps 81 = .ok (.if_icmp .ge 54, 3) := by decide +kernel
theorem dL_areSteps_84 : decode cL_areSteps 84 = .ok (.iload 4, 2) := by decide +kernel
theorem dL_areSteps_86 : decode cL_areSteps 86 = .ok (.iconst 2, 1) := by decide +kernel
theorem dL_areSteps_87 : decode cL_areSteps 87 = .ok (.if_icmp .ge 17, 3) := by decide +kernel
theorem dL_areSteps_90 : decode cL_areSteps 90 = .ok (.aload_n 0, 1) := by decide +kernel
theorem dL_areSteps_91 : decode cL_areSteps 91 = .ok (.iload_n 3, 1) := by decide +kernel
theorem dL_areSteps_92 : decode cL_areSteps 92 = .ok (.iconst 4, 1) := by decide +kernel
theorem dL_areSteps_93 : decode cL_areSteps 93 = .ok (.invokevirtual 58, 3) := by decide +kernel
theorem dL_areSteps_96 : decode cL_areSteps 96 = .ok (.aload_n 0, 1) := by decide +kernel
theorem dL_areSteps_97 : decode cL_areSteps 97 = .ok (.iconst 0, 1) := by decide +kernel
theorem dL_areSteps_98 : decode cL_areSteps 98 = .ok (.invokevirtual 28, 3) := by decide +kernel
theorem dL_areSteps_101 : decode cL_areSteps 101 = .ok (.if_icmp .lt 34, 3) := by decide +kernel
theorem dL_areSteps_104 : decode cL_areSteps 104 = .ok (.iload 4, 2) := by decide +kernel
theorem dL_areSteps_106 : decode cL_areSteps 106 = .ok (.iconst 1, 1) := by decide +kernel
theorem dL_areSteps_107 : decode cL_areSteps 107 = .ok (.if_icmp .ne 30, 3) := by decide +kernel
theorem dL_areSteps_110 : decode cL_areSteps 110 = .ok (.aload_n 0, 1) := by decide +kernel
theorem dL_areSteps_111 : decode cL_areSteps 111 = .ok (.iload_n 3, 1) := by decide +kernel
theorem dL_areSteps_112 : decode cL_areSteps 112 = .ok (.iconst 4, 1) := by decide +kernel
theorem dL_areSteps_113 : decode cL_areSteps 113 = .ok (.invokevirtual 58, 3) := by decide +kernel
theorem dL_areSteps_116 : decode cL_areSteps 116 = .ok (.aload_n 0, 1) := by decide +kernel
theorem dL_areSteps_117 : decode cL_areSteps 117 = .ok (.iconst 0, 1) := by decide +kernel
theorem dL_areSteps_118 : decode cL_areSteps 118 = .ok (.invokevirtual 28, 3) := by decide +kernel
theorem dL_areSteps_121 : decode cL_areSteps 121 = .ok (.if_icmp .ne 14, 3) := by decide +kernel
theorem dL_areSteps_124 : decode cL_areSteps 124 = .ok (.aload_n 0, 1) := by decide +kernel
theorem dL_areSteps_125 : decode cL_areSteps 125 = .ok (.iload_n 3, 1) := by decide +kernel
theorem dL_areSteps_126 : decode cL_areSteps 126 = .ok (.bipush 8, 2) := by decide +kernel
theorem dL_areSteps_128 : decode cL_areSteps 128 = .ok (.invokevirtual 58, 3) := by decide +kernel
theorem dL_areSteps_131 : decode cL_areSteps 131 = .ok (.iconst 2, 1) := by decide +kernel
theorem dL_areSteps_132 : decode cL_areSteps 132 = .ok (.if_icmp .eq 5, 3) := by decide +kernel
theorem dL_areSteps_135 : decode cL_areSteps 135 = .ok (.iconst 0, 1) := by decide +kernel
theorem dL_areSteps_136 : decode cL_areSteps 136 = .ok (.ireturn, 1) := by decide +kernel
theorem dL_areSteps_137 : decode cL_areSteps 137 = .ok (.aload_n 1, 1) := by decide +kernel
theorem dL_areSteps_138 : decode cL_areSteps 138 = .ok (.iload_n 3, 1) := by decide +kernel
theorem dL_areSteps_139 : decode cL_areSteps 139 = .ok (.iload 4, 2) := by decide +kernel
theorem dL_areSteps_141 : decode cL_areSteps 141 = .ok (.iastore, 1) := by decide +kernel
theorem dL_areSteps_142 : decode cL_areSteps 142 = .ok (.iinc 3 1, 3) := by decide +kernel
theorem dL_areSteps_145 : decode cL_areSteps 145 = .ok (.goto (-143), 3) := by decide +kernel
theorem dL_areSteps_148 : decode cL_areSteps 148 = .ok (.iconst 1, 1) := by decide +kernel
theorem dL_areSteps_149 : decode cL_areSteps 149 = .ok (.ireturn, 1) := by decide +kernel
theorem dL_isSo_0 : decode cL_isSo 0 = .ok (.iconst 0, 1) := by decide +kernel
theorem dL_isSo_1 : decode cL_isSo 1 = .ok (.istore_n 3, 1) := by decide +kernel
theorem dL_isSo_2 : decode cL_isSo 2 = .ok (.iconst 0, 1) := by decide +kernel
theorem dL_isSo_3 : decode cL_isSo 3 = .ok (.istore 4, 2) := by decide +kernel
theorem dL_isSo_5 : decode cL_isSo 5 = .ok (.iconst 0, 1) := by decide +kernel
theorem dL_isSo_6 : decode cL_isSo 6 = .ok (.istore 5, 2) := by decide +kernel
theorem dL_isSo_8 : decode cL_isSo 8 = .ok (.iload 5, 2) := by decide +kernel
theorem dL_isSo_10 : decode cL_isSo 10 = .ok (.bipush 20, 2) := by decide +kernel
theorem dL_isSo_12 : decode cL_isSo 12 = .ok (.if_icmp .ge 313, 3) := by decide +kernel
theorem dL_isSo_15 : decode cL_isSo 15 = .ok (.aload_n 0, 1) := by decide +kernel
theorem dL_isSo_16 : decode cL_isSo 16 = .ok (.iload 5, 2) := by decide +kernel
theorem dL_isSo_18 : decode cL_isSo 18 = .ok (.bipush 7, 2) := by decide +kernel
theorem dL_isSo_20 : decode cL_isSo 20 = .ok (.invokevirtual 36, 3) := by decide +kernel
theorem dL_isSo_23 : decode cL_isSo 23 = .ok (.istore 6, 2) := by decide +kernel
theorem dL_isSo_25 : decode cL_isSo 25 = .ok (.iload_n 3, 1) := by decide +kernel
theorem dL_isSo_26 : decode cL_isSo 26 = .ok (.aload_n 0, 1) := by decide +kernel
theorem dL_isSo_27 : decode cL_isSo 27 = .ok (.iload 5, 2) := by decide +kernel
theorem dL_isSo_29 : decode cL_isSo 29 = .ok (.bipush 6, 2) := by decide +kernel
theorem dL_isSo_31 : decode cL_isSo 31 = .ok (.invokevirtual 36, 3) := by decide +kernel
