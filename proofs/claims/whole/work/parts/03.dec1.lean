theorem dX6_ofPossession_84 : decode cX6_ofPossession 84 = .ok (.ireturn, 1) := by decide +kernel
theorem dX6_ofPossession_85 : decode cX6_ofPossession 85 = .ok (.aload_n 3, 1) := by decide +kernel
theorem dX6_ofPossession_86 : decode cX6_ofPossession 86 = .ok (.getfield 211, 3) := by decide +kernel
theorem dX6_ofPossession_89 : decode cX6_ofPossession 89 = .ok (.ireturn, 1) := by decide +kernel
theorem dX6_ofPossession_90 : decode cX6_ofPossession 90 = .ok (.aload_n 3, 1) := by decide +kernel
theorem dX6_ofPossession_91 : decode cX6_ofPossession 91 = .ok (.getfield 196, 3) := by decide +kernel
theorem dX6_ofPossession_94 : decode cX6_ofPossession 94 = .ok (.invokevirtual 104, 3) := by decide +kernel
theorem dX6_ofPossession_97 : decode cX6_ofPossession 97 = .ok (.ireturn, 1) := by decide +kernel
theorem dX6_ofPossession_98 : decode cX6_ofPossession 98 = .ok (.aload_n 3, 1) := by decide +kernel
theorem dX6_ofPossession_99 : decode cX6_ofPossession 99 = .ok (.invokevirtual 208, 3) := by decide +kernel
theorem dX6_ofPossession_102 : decode cX6_ofPossession 102 = .ok (.ireturn, 1) := by decide +kernel
theorem dX6_ofPossession_103 : decode cX6_ofPossession 103 = .ok (.aload_n 3, 1) := by decide +kernel
theorem dX6_ofPossession_104 : decode cX6_ofPossession 104 = .ok (.invokevirtual 242, 3) := by decide +kernel
theorem dX6_ofPossession_107 : decode cX6_ofPossession 107 = .ok (.ireturn, 1) := by decide +kernel
theorem dX6_ofPossession_108 : decode cX6_ofPossession 108 = .ok (.aload_n 3, 1) := by decide +kernel
theorem dX6_ofPossession_109 : decode cX6_ofPossession 109 = .ok (.getfield 259, 3) := by decide +kernel
theorem dX6_ofPossession_112 : decode cX6_ofPossession 112 = .ok (.ireturn, 1) := by decide +kernel
theorem dX6_ofPossession_113 : decode cX6_ofPossession 113 = .ok (.new 72, 3) := by decide +kernel
theorem dX6_ofPossession_116 : decode cX6_ofPossession 116 = .ok (.dup, 1) := by decide +kernel
theorem dX6_ofPossession_117 : decode cX6_ofPossession 117 = .ok (.ldc_w 320, 3) := by decide +kernel
theorem dX6_ofPossession_120 : decode cX6_ofPossession 120 = .ok (.invokespecial 76, 3) := by decide +kernel
theorem dX6_ofPossession_123 : decode cX6_ofPossession 123 = .ok (.athrow, 1) := by decide +kernel
theorem dX6_many_0 : decode cX6_many 0 = .ok (.iload_n 1, 1) := by decide +kernel
theorem dX6_many_1 : decode cX6_many 1 = .ok (.tableswitch 179 0 16 #[83, 88, 96, 104, 109, 115, 121, 127, 133, 139, 144, 149, 154, 159, 164, 169, 174], 83) := by decide +kernel
theorem dX6_many_84 : decode cX6_many 84 = .ok (.aload_n 0, 1) := by decide +kernel
theorem dX6_many_85 : decode cX6_many 85 = .ok (.getfield 42, 3) := by decide +kernel
theorem dX6_many_88 : decode cX6_many 88 = .ok (.ireturn, 1) := by decide +kernel
theorem dX6_many_89 : decode cX6_many 89 = .ok (.aload_n 0, 1) := by decide +kernel
theorem dX6_many_90 : decode cX6_many 90 = .ok (.getfield 22, 3) := by decide +kernel
theorem dX6_many_93 : decode cX6_many 93 = .ok (.invokevirtual 104, 3) := by decide +kernel
theorem dX6_many_96 : decode cX6_many 96 = .ok (.ireturn, 1) := by decide +kernel
theorem dX6_many_97 : decode cX6_many 97 = .ok (.aload_n 0, 1) := by decide +kernel
theorem dX6_many_98 : decode cX6_many 98 = .ok (.getfield 18, 3) := by decide +kernel
theorem dX6_many_101 : decode cX6_many 101 = .ok (.invokevirtual 104, 3) := by decide +kernel
theorem dX6_many_104 : decode cX6_many 104 = .ok (.ireturn, 1) := by decide +kernel
theorem dX6_many_105 : decode cX6_many 105 = .ok (.aload_n 0, 1) := by decide +kernel
theorem dX6_many_106 : decode cX6_many 106 = .ok (.invokevirtual 322, 3) := by decide +kernel
theorem dX6_many_109 : decode cX6_many 109 = .ok (.ireturn, 1) := by decide +kernel
theorem dX6_many_110 : decode cX6_many 110 = .ok (.aload_n 0, 1) := by decide +kernel
theorem dX6_many_111 : decode cX6_many 111 = .ok (.iconst 0, 1) := by decide +kernel
theorem dX6_many_112 : decode cX6_many 112 = .ok (.invokevirtual 325, 3) := by decide +kernel
theorem dX6_many_115 : decode cX6_many 115 = .ok (.ireturn, 1) := by decide +kernel
theorem dX6_many_116 : decode cX6_many 116 = .ok (.aload_n 0, 1) := by decide +kernel
theorem dX6_many_117 : decode cX6_many 117 = .ok (.iconst 1, 1) := by decide +kernel
theorem dX6_many_118 : decode cX6_many 118 = .ok (.invokevirtual 325, 3) := by decide +kernel
theorem dX6_many_121 : decode cX6_many 121 = .ok (.ireturn, 1) := by decide +kernel
theorem dX6_many_122 : decode cX6_many 122 = .ok (.aload_n 0, 1) := by decide +kernel
theorem dX6_many_123 : decode cX6_many 123 = .ok (.iconst 2, 1) := by decide +kernel
theorem dX6_many_124 : decode cX6_many 124 = .ok (.invokevirtual 325, 3) := by decide +kernel
theorem dX6_many_127 : decode cX6_many 127 = .ok (.ireturn, 1) := by decide +kernel
theorem dX6_many_128 : decode cX6_many 128 = .ok (.aload_n 0, 1) := by decide +kernel
theorem dX6_many_129 : decode cX6_many 129 = .ok (.iconst 3, 1) := by decide +kernel
theorem dX6_many_130 : decode cX6_many 130 = .ok (.invokevirtual 325, 3) := by decide +kernel
theorem dX6_many_133 : decode cX6_many 133 = .ok (.ireturn, 1) := by decide +kernel
theorem dX6_many_134 : decode cX6_many 134 = .ok (.aload_n 0, 1) := by decide +kernel
theorem dX6_many_135 : decode cX6_many 135 = .ok (.iconst 4, 1) := by decide +kernel
theorem dX6_many_136 : decode cX6_many 136 = .ok (.invokevirtual 325, 3) := by decide +kernel
theorem dX6_many_139 : decode cX6_many 139 = .ok (.ireturn, 1) := by decide +kernel
theorem dX6_many_140 : decode cX6_many 140 = .ok (.aload_n 0, 1) := by decide +kernel
theorem dX6_many_141 : decode cX6_many 141 = .ok (.getfield 49, 3) := by decide +kernel
theorem dX6_many_144 : decode cX6_many 144 = .ok (.ireturn, 1) := by decide +kernel
theorem dX6_many_145 : decode cX6_many 145 = .ok (.aload_n 0, 1) := by decide +kernel
theorem dX6_many_146 : decode cX6_many 146 = .ok (.getfield 52, 3) := by decide +kernel
theorem dX6_many_149 : decode cX6_many 149 = .ok (.ireturn, 1) := by decide +kernel
theorem dX6_many_150 : decode cX6_many 150 = .ok (.aload_n 0, 1) := by decide +kernel
theorem dX6_many_151 : decode cX6_many 151 = .ok (.getfield 55, 3) := by decide +kernel
theorem dX6_many_154 : decode cX6_many 154 = .ok (.ireturn, 1) := by decide +kernel
theorem dX6_many_155 : decode cX6_many 155 = .ok (.aload_n 0, 1) := by decide +kernel
theorem dX6_many_156 : decode cX6_many 156 = .ok (.getfield 58, 3) := by decide +kernel
theorem dX6_many_159 : decode cX6_many 159 = .ok (.ireturn, 1) := by decide +kernel
theorem dX6_many_160 : decode cX6_many 160 = .ok (.aload_n 0, 1) := by decide +kernel
theorem dX6_many_161 : decode cX6_many 161 = .ok (.invokevirtual 328, 3) := by decide +kernel
theorem dX6_many_164 : decode cX6_many 164 = .ok (.ireturn, 1) := by decide +kernel
theorem dX6_many_165 : decode cX6_many 165 = .ok (.aload_n 0, 1) := by decide +kernel
theorem dX6_many_166 : decode cX6_many 166 = .ok (.invokevirtual 331, 3) := by decide +kernel
theorem dX6_many_169 : decode cX6_many 169 = .ok (.ireturn, 1) := by decide +kernel
theorem dX6_many_170 : decode cX6_many 170 = .ok (.aload_n 0, 1) := by decide +kernel
theorem dX6_many_171 : decode cX6_many 171 = .ok (.getfield 46, 3) := by decide +kernel
theorem dX6_many_174 : decode cX6_many 174 = .ok (.ireturn, 1) := by decide +kernel
theorem dX6_many_175 : decode cX6_many 175 = .ok (.aload_n 0, 1) := by decide +kernel
theorem dX6_many_176 : decode cX6_many 176 = .ok (.getfield 61, 3) := by decide +kernel
theorem dX6_many_179 : decode cX6_many 179 = .ok (.ireturn, 1) := by decide +kernel
theorem dX6_many_180 : decode cX6_many 180 = .ok (.new 72, 3) := by decide +kernel
theorem dX6_many_183 : decode cX6_many 183 = .ok (.dup, 1) := by decide +kernel
theorem dX6_many_184 : decode cX6_many 184 = .ok (.ldc_w 334, 3) := by decide +kernel
theorem dX6_many_187 : decode cX6_many 187 = .ok (.invokespecial 76, 3) := by decide +kernel
theorem dX6_many_190 : decode cX6_many 190 = .ok (.athrow, 1) := by decide +kernel
theorem dX6_meanWear_0 : decode cX6_meanWear 0 = .ok (.iload_n 1, 1) := by decide +kernel
theorem dX6_meanWear_1 : decode cX6_meanWear 1 = .ok (.ifCond .lt 8, 3) := by decide +kernel
theorem dX6_meanWear_4 : decode cX6_meanWear 4 = .ok (.iload_n 1, 1) := by decide +kernel
theorem dX6_meanWear_5 : decode cX6_meanWear 5 = .ok (.iconst 2, 1) := by decide +kernel
theorem dX6_meanWear_6 : decode cX6_meanWear 6 = .ok (.if_icmp .lt 14, 3) := by decide +kernel
theorem dX6_meanWear_9 : decode cX6_meanWear 9 = .ok (.new 125, 3) := by decide +kernel
theorem dX6_meanWear_12 : decode cX6_meanWear 12 = .ok (.dup, 1) := by decide +kernel
theorem dX6_meanWear_13 : decode cX6_meanWear 13 = .ok (.ldc_w 336, 3) := by decide +kernel
theorem dX6_meanWear_16 : decode cX6_meanWear 16 = .ok (.invokespecial 129, 3) := by decide +kernel
theorem dX6_meanWear_19 : decode cX6_meanWear 19 = .ok (.athrow, 1) := by decide +kernel
theorem dX6_meanWear_20 : decode cX6_meanWear 20 = .ok (.iconst 0, 1) := by decide +kernel
theorem dX6_meanWear_21 : decode cX6_meanWear 21 = .ok (.istore_n 2, 1) := by decide +kernel
theorem dX6_meanWear_22 : decode cX6_meanWear 22 = .ok (.iconst 0, 1) := by decide +kernel
theorem dX6_meanWear_23 : decode cX6_meanWear 23 = .ok (.istore_n 3, 1) := by decide +kernel
theorem dX6_meanWear_24 : decode cX6_meanWear 24 = .ok (.iload_n 3, 1) := by decide +kernel
theorem dX6_meanWear_25 : decode cX6_meanWear 25 = .ok (.bipush 10, 2) := by decide +kernel
theorem dX6_meanWear_27 : decode cX6_meanWear 27 = .ok (.if_icmp .ge 29, 3) := by decide +kernel
theorem dX6_meanWear_30 : decode cX6_meanWear 30 = .ok (.iload_n 2, 1) := by decide +kernel
theorem dX6_meanWear_31 : decode cX6_meanWear 31 = .ok (.aload_n 0, 1) := by decide +kernel
theorem dX6_meanWear_32 : decode cX6_meanWear 32 = .ok (.getfield 11, 3) := by decide +kernel
theorem dX6_meanWear_35 : decode cX6_meanWear 35 = .ok (.iload_n 1, 1) := by decide +kernel
theorem dX6_meanWear_36 : decode cX6_meanWear 36 = .ok (.bipush 10, 2) := by decide +kernel
theorem dX6_meanWear_38 : decode cX6_meanWear 38 = .ok (.imul, 1) := by decide +kernel
theorem dX6_meanWear_39 : decode cX6_meanWear 39 = .ok (.iload_n 3, 1) := by decide +kernel
theorem dX6_meanWear_40 : decode cX6_meanWear 40 = .ok (.iadd, 1) := by decide +kernel
theorem dX6_meanWear_41 : decode cX6_meanWear 41 = .ok (.aaload, 1) := by decide +kernel
theorem dX6_meanWear_42 : decode cX6_meanWear 42 = .ok (.getfield 114, 3) := by decide +kernel
theorem dX6_meanWear_45 : decode cX6_meanWear 45 = .ok (.getfield 274, 3) := by decide +kernel
theorem dX6_meanWear_48 : decode cX6_meanWear 48 = .ok (.iadd, 1) := by decide +kernel
theorem dX6_meanWear_49 : decode cX6_meanWear 49 = .ok (.istore_n 2, 1) := by decide +kernel
theorem dX6_meanWear_50 : decode cX6_meanWear 50 = .ok (.iinc 3 1, 3) := by decide +kernel
theorem dX6_meanWear_53 : decode cX6_meanWear 53 = .ok (.goto (-29), 3) := by decide +kernel
theorem dX6_meanWear_56 : decode cX6_meanWear 56 = .ok (.iload_n 2, 1) := by decide +kernel
theorem dX6_meanWear_57 : decode cX6_meanWear 57 = .ok (.i2d, 1) := by decide +kernel
theorem dX6_meanWear_58 : decode cX6_meanWear 58 = .ok (.ldc2_w 338, 3) := by decide +kernel
theorem dX6_meanWear_61 : decode cX6_meanWear 61 = .ok (.ddiv, 1) := by decide +kernel
theorem dX6_meanWear_62 : decode cX6_meanWear 62 = .ok (.dreturn, 1) := by decide +kernel
theorem dX6_couldSee_0 : decode cX6_couldSee 0 = .ok (.aload_n 0, 1) := by decide +kernel
theorem dX6_couldSee_1 : decode cX6_couldSee 1 = .ok (.iload_n 1, 1) := by decide +kernel
theorem dX6_couldSee_2 : decode cX6_couldSee 2 = .ok (.invokevirtual 340, 3) := by decide +kernel
theorem dX6_couldSee_5 : decode cX6_couldSee 5 = .ok (.iconst 0, 1) := by decide +kernel
theorem dX6_couldSee_6 : decode cX6_couldSee 6 = .ok (.istore_n 2, 1) := by decide +kernel
theorem dX6_couldSee_7 : decode cX6_couldSee 7 = .ok (.iload_n 2, 1) := by decide +kernel
theorem dX6_couldSee_8 : decode cX6_couldSee 8 = .ok (.aload_n 0, 1) := by decide +kernel
theorem dX6_couldSee_9 : decode cX6_couldSee 9 = .ok (.getfield 18, 3) := by decide +kernel
theorem dX6_couldSee_12 : decode cX6_couldSee 12 = .ok (.invokevirtual 104, 3) := by decide +kernel
theorem dX6_couldSee_15 : decode cX6_couldSee 15 = .ok (.if_icmp .ge 38, 3) := by decide +kernel
theorem dX6_couldSee_18 : decode cX6_couldSee 18 = .ok (.aload_n 0, 1) := by decide +kernel
theorem dX6_couldSee_19 : decode cX6_couldSee 19 = .ok (.getfield 18, 3) := by decide +kernel
theorem dX6_couldSee_22 : decode cX6_couldSee 22 = .ok (.iload_n 2, 1) := by decide +kernel
theorem dX6_couldSee_23 : decode cX6_couldSee 23 = .ok (.invokevirtual 130, 3) := by decide +kernel
theorem dX6_couldSee_26 : decode cX6_couldSee 26 = .ok (.checkcast 110, 3) := by decide +kernel
theorem dX6_couldSee_29 : decode cX6_couldSee 29 = .ok (.iload_n 1, 1) := by decide +kernel
theorem dX6_couldSee_30 : decode cX6_couldSee 30 = .ok (.invokevirtual 343, 3) := by decide +kernel
theorem dX6_couldSee_33 : decode cX6_couldSee 33 = .ok (.astore_n 3, 1) := by decide +kernel
theorem dX6_couldSee_34 : decode cX6_couldSee 34 = .ok (.aload_n 3, 1) := by decide +kernel
theorem dX6_couldSee_35 : decode cX6_couldSee 35 = .ok (.ifnull 12, 3) := by decide +kernel
theorem dX6_couldSee_38 : decode cX6_couldSee 38 = .ok (.aload_n 3, 1) := by decide +kernel
theorem dX6_couldSee_39 : decode cX6_couldSee 39 = .ok (.getfield 277, 3) := by decide +kernel
theorem dX6_couldSee_42 : decode cX6_couldSee 42 = .ok (.ifCond .le 5, 3) := by decide +kernel
theorem dX6_couldSee_45 : decode cX6_couldSee 45 = .ok (.iload_n 2, 1) := by decide +kernel
theorem dX6_couldSee_46 : decode cX6_couldSee 46 = .ok (.ireturn, 1) := by decide +kernel
theorem dX6_couldSee_47 : decode cX6_couldSee 47 = .ok (.iinc 2 1, 3) := by decide +kernel
theorem dX6_couldSee_50 : decode cX6_couldSee 50 = .ok (.goto (-43), 3) := by decide +kernel
theorem dX6_couldSee_53 : decode cX6_couldSee 53 = .ok (.iconst (-1), 1) := by decide +kernel
theorem dX6_couldSee_54 : decode cX6_couldSee 54 = .ok (.ireturn, 1) := by decide +kernel
theorem dX6_firstRisk_0 : decode cX6_firstRisk 0 = .ok (.aload_n 0, 1) := by decide +kernel
theorem dX6_firstRisk_1 : decode cX6_firstRisk 1 = .ok (.iload_n 1, 1) := by decide +kernel
theorem dX6_firstRisk_2 : decode cX6_firstRisk 2 = .ok (.invokevirtual 64, 3) := by decide +kernel
theorem dX6_firstRisk_5 : decode cX6_firstRisk 5 = .ok (.astore_n 3, 1) := by decide +kernel
theorem dX6_firstRisk_6 : decode cX6_firstRisk 6 = .ok (.aload_n 0, 1) := by decide +kernel
theorem dX6_firstRisk_7 : decode cX6_firstRisk 7 = .ok (.iload_n 2, 1) := by decide +kernel
theorem dX6_firstRisk_8 : decode cX6_firstRisk 8 = .ok (.invokevirtual 82, 3) := by decide +kernel
theorem dX6_firstRisk_11 : decode cX6_firstRisk 11 = .ok (.aload_n 0, 1) := by decide +kernel
theorem dX6_firstRisk_12 : decode cX6_firstRisk 12 = .ok (.getfield 38, 3) := by decide +kernel
theorem dX6_firstRisk_15 : decode cX6_firstRisk 15 = .ok (.aload_n 3, 1) := by decide +kernel
theorem dX6_firstRisk_16 : decode cX6_firstRisk 16 = .ok (.invokevirtual 346, 3) := by decide +kernel
theorem dX6_firstRisk_19 : decode cX6_firstRisk 19 = .ok (.iconst 0, 1) := by decide +kernel
theorem dX6_firstRisk_20 : decode cX6_firstRisk 20 = .ok (.istore 4, 2) := by decide +kernel
theorem dX6_firstRisk_22 : decode cX6_firstRisk 22 = .ok (.iload 4, 2) := by decide +kernel
theorem dX6_firstRisk_24 : decode cX6_firstRisk 24 = .ok (.sipush 200, 3) := by decide +kernel
theorem dX6_firstRisk_27 : decode cX6_firstRisk 27 = .ok (.if_icmp .gt 34, 3) := by decide +kernel
theorem dX6_firstRisk_30 : decode cX6_firstRisk 30 = .ok (.aload_n 0, 1) := by decide +kernel
theorem dX6_firstRisk_31 : decode cX6_firstRisk 31 = .ok (.getfield 38, 3) := by decide +kernel
theorem dX6_firstRisk_34 : decode cX6_firstRisk 34 = .ok (.aload_n 0, 1) := by decide +kernel
theorem dX6_firstRisk_35 : decode cX6_firstRisk 35 = .ok (.getfield 46, 3) := by decide +kernel
theorem dX6_firstRisk_38 : decode cX6_firstRisk 38 = .ok (.invokevirtual 350, 3) := by decide +kernel
theorem dX6_firstRisk_41 : decode cX6_firstRisk 41 = .ok (.ifCond .eq 6, 3) := by decide +kernel
theorem dX6_firstRisk_44 : decode cX6_firstRisk 44 = .ok (.iload 4, 2) := by decide +kernel
theorem dX6_firstRisk_46 : decode cX6_firstRisk 46 = .ok (.ireturn, 1) := by decide +kernel
theorem dX6_firstRisk_47 : decode cX6_firstRisk 47 = .ok (.aload_n 0, 1) := by decide +kernel
theorem dX6_firstRisk_48 : decode cX6_firstRisk 48 = .ok (.getfield 38, 3) := by decide +kernel
theorem dX6_firstRisk_51 : decode cX6_firstRisk 51 = .ok (.iload_n 2, 1) := by decide +kernel
theorem dX6_firstRisk_52 : decode cX6_firstRisk 52 = .ok (.invokevirtual 353, 3) := by decide +kernel
theorem dX6_firstRisk_55 : decode cX6_firstRisk 55 = .ok (.iinc 4 1, 3) := by decide +kernel
theorem dX6_firstRisk_58 : decode cX6_firstRisk 58 = .ok (.goto (-36), 3) := by decide +kernel
theorem dX6_firstRisk_61 : decode cX6_firstRisk 61 = .ok (.iconst (-1), 1) := by decide +kernel
theorem dX6_firstRisk_62 : decode cX6_firstRisk 62 = .ok (.ireturn, 1) := by decide +kernel
theorem dX6_bestWork_0 : decode cX6_bestWork 0 = .ok (.aload_n 0, 1) := by decide +kernel
theorem dX6_bestWork_1 : decode cX6_bestWork 1 = .ok (.iload_n 1, 1) := by decide +kernel
theorem dX6_bestWork_2 : decode cX6_bestWork 2 = .ok (.invokevirtual 64, 3) := by decide +kernel
theorem dX6_bestWork_5 : decode cX6_bestWork 5 = .ok (.astore 4, 2) := by decide +kernel
theorem dX6_bestWork_7 : decode cX6_bestWork 7 = .ok (.aload_n 0, 1) := by decide +kernel
theorem dX6_bestWork_8 : decode cX6_bestWork 8 = .ok (.iload_n 2, 1) := by decide +kernel
theorem dX6_bestWork_9 : decode cX6_bestWork 9 = .ok (.invokevirtual 82, 3) := by decide +kernel
theorem dX6_bestWork_12 : decode cX6_bestWork 12 = .ok (.iload_n 3, 1) := by decide +kernel
theorem dX6_bestWork_13 : decode cX6_bestWork 13 = .ok (.iconst 1, 1) := by decide +kernel
theorem dX6_bestWork_14 : decode cX6_bestWork 14 = .ok (.if_icmp .lt 10, 3) := by decide +kernel
theorem dX6_bestWork_17 : decode cX6_bestWork 17 = .ok (.iload_n 3, 1) := by decide +kernel
theorem dX6_bestWork_18 : decode cX6_bestWork 18 = .ok (.sipush 200, 3) := by decide +kernel
theorem dX6_bestWork_21 : decode cX6_bestWork 21 = .ok (.if_icmp .le 14, 3) := by decide +kernel
theorem dX6_bestWork_24 : decode cX6_bestWork 24 = .ok (.new 72, 3) := by decide +kernel
theorem dX6_bestWork_27 : decode cX6_bestWork 27 = .ok (.dup, 1) := by decide +kernel
theorem dX6_bestWork_28 : decode cX6_bestWork 28 = .ok (.ldc_w 356, 3) := by decide +kernel
theorem dX6_bestWork_31 : decode cX6_bestWork 31 = .ok (.invokespecial 76, 3) := by decide +kernel
theorem dX6_bestWork_34 : decode cX6_bestWork 34 = .ok (.athrow, 1) := by decide +kernel
theorem dX6_bestWork_35 : decode cX6_bestWork 35 = .ok (.iconst 0, 1) := by decide +kernel
theorem dX6_bestWork_36 : decode cX6_bestWork 36 = .ok (.istore 5, 2) := by decide +kernel
theorem dX6_bestWork_38 : decode cX6_bestWork 38 = .ok (.aload_n 0, 1) := by decide +kernel
theorem dX6_bestWork_39 : decode cX6_bestWork 39 = .ok (.aload 4, 2) := by decide +kernel
theorem dX6_bestWork_41 : decode cX6_bestWork 41 = .ok (.iconst 0, 1) := by decide +kernel
theorem dX6_bestWork_42 : decode cX6_bestWork 42 = .ok (.iload_n 2, 1) := by decide +kernel
theorem dX6_bestWork_43 : decode cX6_bestWork 43 = .ok (.iload_n 3, 1) := by decide +kernel
theorem dX6_bestWork_44 : decode cX6_bestWork 44 = .ok (.invokevirtual 358, 3) := by decide +kernel
theorem dX6_bestWork_47 : decode cX6_bestWork 47 = .ok (.istore 6, 2) := by decide +kernel
theorem dX6_bestWork_49 : decode cX6_bestWork 49 = .ok (.iconst 1, 1) := by decide +kernel
theorem dX6_bestWork_50 : decode cX6_bestWork 50 = .ok (.istore 7, 2) := by decide +kernel
theorem dX6_bestWork_52 : decode cX6_bestWork 52 = .ok (.iload 7, 2) := by decide +kernel
theorem dX6_bestWork_54 : decode cX6_bestWork 54 = .ok (.iconst 3, 1) := by decide +kernel
theorem dX6_bestWork_55 : decode cX6_bestWork 55 = .ok (.if_icmp .gt 36, 3) := by decide +kernel
theorem dX6_bestWork_58 : decode cX6_bestWork 58 = .ok (.aload_n 0, 1) := by decide +kernel
theorem dX6_bestWork_59 : decode cX6_bestWork 59 = .ok (.aload 4, 2) := by decide +kernel
theorem dX6_bestWork_61 : decode cX6_bestWork 61 = .ok (.iload 7, 2) := by decide +kernel
theorem dX6_bestWork_63 : decode cX6_bestWork 63 = .ok (.iload_n 2, 1) := by decide +kernel
theorem dX6_bestWork_64 : decode cX6_bestWork 64 = .ok (.iload_n 3, 1) := by decide +kernel
theorem dX6_bestWork_65 : decode cX6_bestWork 65 = .ok (.invokevirtual 358, 3) := by decide +kernel
theorem dX6_bestWork_68 : decode cX6_bestWork 68 = .ok (.istore 8, 2) := by decide +kernel
theorem dX6_bestWork_70 : decode cX6_bestWork 70 = .ok (.iload 8, 2) := by decide +kernel
theorem dX6_bestWork_72 : decode cX6_bestWork 72 = .ok (.iload 6, 2) := by decide +kernel
theorem dX6_bestWork_74 : decode cX6_bestWork 74 = .ok (.if_icmp .ge 11, 3) := by decide +kernel
theorem dX6_bestWork_77 : decode cX6_bestWork 77 = .ok (.iload 7, 2) := by decide +kernel
theorem dX6_bestWork_79 : decode cX6_bestWork 79 = .ok (.istore 5, 2) := by decide +kernel
theorem dX6_bestWork_81 : decode cX6_bestWork 81 = .ok (.iload 8, 2) := by decide +kernel
theorem dX6_bestWork_83 : decode cX6_bestWork 83 = .ok (.istore 6, 2) := by decide +kernel
theorem dX6_bestWork_85 : decode cX6_bestWork 85 = .ok (.iinc 7 1, 3) := by decide +kernel
theorem dX6_bestWork_88 : decode cX6_bestWork 88 = .ok (.goto (-36), 3) := by decide +kernel
theorem dX6_bestWork_91 : decode cX6_bestWork 91 = .ok (.iload 5, 2) := by decide +kernel
theorem dX6_bestWork_93 : decode cX6_bestWork 93 = .ok (.ireturn, 1) := by decide +kernel
theorem dX6_freeDay_0 : decode cX6_freeDay 0 = .ok (.aload_n 0, 1) := by decide +kernel
theorem dX6_freeDay_1 : decode cX6_freeDay 1 = .ok (.iload_n 1, 1) := by decide +kernel
theorem dX6_freeDay_2 : decode cX6_freeDay 2 = .ok (.iload_n 2, 1) := by decide +kernel
theorem dX6_freeDay_3 : decode cX6_freeDay 3 = .ok (.iload_n 3, 1) := by decide +kernel
theorem dX6_freeDay_4 : decode cX6_freeDay 4 = .ok (.invokevirtual 99, 3) := by decide +kernel
theorem dX6_freeDay_7 : decode cX6_freeDay 7 = .ok (.aload_n 0, 1) := by decide +kernel
theorem dX6_freeDay_8 : decode cX6_freeDay 8 = .ok (.getfield 42, 3) := by decide +kernel
theorem dX6_freeDay_11 : decode cX6_freeDay 11 = .ok (.iconst 5, 1) := by decide +kernel
theorem dX6_freeDay_12 : decode cX6_freeDay 12 = .ok (.iadd, 1) := by decide +kernel
theorem dX6_freeDay_13 : decode cX6_freeDay 13 = .ok (.istore 4, 2) := by decide +kernel
theorem dX6_freeDay_15 : decode cX6_freeDay 15 = .ok (.iload 4, 2) := by decide +kernel
theorem dX6_freeDay_17 : decode cX6_freeDay 17 = .ok (.sipush 2000, 3) := by decide +kernel
theorem dX6_freeDay_20 : decode cX6_freeDay 20 = .ok (.if_icmp .gt 24, 3) := by decide +kernel
theorem dX6_freeDay_23 : decode cX6_freeDay 23 = .ok (.aload_n 0, 1) := by decide +kernel
theorem dX6_freeDay_24 : decode cX6_freeDay 24 = .ok (.iload_n 1, 1) := by decide +kernel
theorem dX6_freeDay_25 : decode cX6_freeDay 25 = .ok (.iload_n 2, 1) := by decide +kernel
theorem dX6_freeDay_26 : decode cX6_freeDay 26 = .ok (.iload_n 3, 1) := by decide +kernel
theorem dX6_freeDay_27 : decode cX6_freeDay 27 = .ok (.iload 4, 2) := by decide +kernel
theorem dX6_freeDay_29 : decode cX6_freeDay 29 = .ok (.invokevirtual 170, 3) := by decide +kernel
theorem dX6_freeDay_32 : decode cX6_freeDay 32 = .ok (.ifCond .eq 6, 3) := by decide +kernel
theorem dX6_freeDay_35 : decode cX6_freeDay 35 = .ok (.iload 4, 2) := by decide +kernel
theorem dX6_freeDay_37 : decode cX6_freeDay 37 = .ok (.ireturn, 1) := by decide +kernel
theorem dX6_freeDay_38 : decode cX6_freeDay 38 = .ok (.iinc 4 1, 3) := by decide +kernel
theorem dX6_freeDay_41 : decode cX6_freeDay 41 = .ok (.goto (-26), 3) := by decide +kernel
theorem dX6_freeDay_44 : decode cX6_freeDay 44 = .ok (.iconst (-1), 1) := by decide +kernel
theorem dX6_freeDay_45 : decode cX6_freeDay 45 = .ok (.ireturn, 1) := by decide +kernel
theorem dX6_wouldOverrun_0 : decode cX6_wouldOverrun 0 = .ok (.aload_n 0, 1) := by decide +kernel
theorem dX6_wouldOverrun_1 : decode cX6_wouldOverrun 1 = .ok (.iload_n 1, 1) := by decide +kernel
theorem dX6_wouldOverrun_2 : decode cX6_wouldOverrun 2 = .ok (.invokevirtual 181, 3) := by decide +kernel
theorem dX6_wouldOverrun_5 : decode cX6_wouldOverrun 5 = .ok (.astore_n 2, 1) := by decide +kernel
theorem dX6_wouldOverrun_6 : decode cX6_wouldOverrun 6 = .ok (.aload_n 2, 1) := by decide +kernel
theorem dX6_wouldOverrun_7 : decode cX6_wouldOverrun 7 = .ok (.invokevirtual 362, 3) := by decide +kernel
theorem dX6_wouldOverrun_10 : decode cX6_wouldOverrun 10 = .ok (.ifCond .ne 14, 3) := by decide +kernel
theorem dX6_wouldOverrun_13 : decode cX6_wouldOverrun 13 = .ok (.new 90, 3) := by decide +kernel
theorem dX6_wouldOverrun_16 : decode cX6_wouldOverrun 16 = .ok (.dup, 1) := by decide +kernel
theorem dX6_wouldOverrun_17 : decode cX6_wouldOverrun 17 = .ok (.ldc_w 366, 3) := by decide +kernel
theorem dX6_wouldOverrun_20 : decode cX6_wouldOverrun 20 = .ok (.invokespecial 94, 3) := by decide +kernel
theorem dX6_wouldOverrun_23 : decode cX6_wouldOverrun 23 = .ok (.athrow, 1) := by decide +kernel
theorem dX6_wouldOverrun_24 : decode cX6_wouldOverrun 24 = .ok (.iconst 0, 1) := by decide +kernel
theorem dX6_wouldOverrun_25 : decode cX6_wouldOverrun 25 = .ok (.aload_n 0, 1) := by decide +kernel
theorem dX6_wouldOverrun_26 : decode cX6_wouldOverrun 26 = .ok (.aload_n 2, 1) := by decide +kernel
theorem dX6_wouldOverrun_27 : decode cX6_wouldOverrun 27 = .ok (.invokevirtual 368, 3) := by decide +kernel
theorem dX6_wouldOverrun_30 : decode cX6_wouldOverrun 30 = .ok (.aload_n 2, 1) := by decide +kernel
theorem dX6_wouldOverrun_31 : decode cX6_wouldOverrun 31 = .ok (.getfield 211, 3) := by decide +kernel
theorem dX6_wouldOverrun_34 : decode cX6_wouldOverrun 34 = .ok (.isub, 1) := by decide +kernel
theorem dX6_wouldOverrun_35 : decode cX6_wouldOverrun 35 = .ok (.invokestatic 372, 3) := by decide +kernel
theorem dX6_wouldOverrun_38 : decode cX6_wouldOverrun 38 = .ok (.ireturn, 1) := by decide +kernel
theorem dX6_digest_0 : decode cX6_digest 0 = .ok (.ldc2_w 378, 3) := by decide +kernel
theorem dX6_digest_3 : decode cX6_digest 3 = .ok (.lstore_n 1, 1) := by decide +kernel
theorem dX6_digest_4 : decode cX6_digest 4 = .ok (.iconst 0, 1) := by decide +kernel
theorem dX6_digest_5 : decode cX6_digest 5 = .ok (.istore_n 3, 1) := by decide +kernel
theorem dX6_digest_6 : decode cX6_digest 6 = .ok (.iload_n 3, 1) := by decide +kernel
theorem dX6_digest_7 : decode cX6_digest 7 = .ok (.bipush 16, 2) := by decide +kernel
theorem dX6_digest_9 : decode cX6_digest 9 = .ok (.if_icmp .gt 22, 3) := by decide +kernel
theorem dX6_digest_12 : decode cX6_digest 12 = .ok (.lload_n 1, 1) := by decide +kernel
theorem dX6_digest_13 : decode cX6_digest 13 = .ok (.ldc2_w 380, 3) := by decide +kernel
theorem dX6_digest_16 : decode cX6_digest 16 = .ok (.lmul, 1) := by decide +kernel
theorem dX6_digest_17 : decode cX6_digest 17 = .ok (.aload_n 0, 1) := by decide +kernel
theorem dX6_digest_18 : decode cX6_digest 18 = .ok (.iload_n 3, 1) := by decide +kernel
theorem dX6_digest_19 : decode cX6_digest 19 = .ok (.invokevirtual 382, 3) := by decide +kernel
theorem dX6_digest_22 : decode cX6_digest 22 = .ok (.i2l, 1) := by decide +kernel
theorem dX6_digest_23 : decode cX6_digest 23 = .ok (.ladd, 1) := by decide +kernel
theorem dX6_digest_24 : decode cX6_digest 24 = .ok (.lstore_n 1, 1) := by decide +kernel
theorem dX6_digest_25 : decode cX6_digest 25 = .ok (.iinc 3 1, 3) := by decide +kernel
theorem dX6_digest_28 : decode cX6_digest 28 = .ok (.goto (-22), 3) := by decide +kernel
theorem dX6_digest_31 : decode cX6_digest 31 = .ok (.iconst 0, 1) := by decide +kernel
theorem dX6_digest_32 : decode cX6_digest 32 = .ok (.istore_n 3, 1) := by decide +kernel
theorem dX6_digest_33 : decode cX6_digest 33 = .ok (.iload_n 3, 1) := by decide +kernel
theorem dX6_digest_34 : decode cX6_digest 34 = .ok (.bipush 20, 2) := by decide +kernel
theorem dX6_digest_36 : decode cX6_digest 36 = .ok (.if_icmp .ge 16, 3) := by decide +kernel
theorem dX6_digest_39 : decode cX6_digest 39 = .ok (.aload_n 0, 1) := by decide +kernel
theorem dX6_digest_40 : decode cX6_digest 40 = .ok (.lload_n 1, 1) := by decide +kernel
theorem dX6_digest_41 : decode cX6_digest 41 = .ok (.iload_n 3, 1) := by decide +kernel
theorem dX6_digest_42 : decode cX6_digest 42 = .ok (.invokevirtual 385, 3) := by decide +kernel
theorem dX6_digest_45 : decode cX6_digest 45 = .ok (.lstore_n 1, 1) := by decide +kernel
theorem dX6_digest_46 : decode cX6_digest 46 = .ok (.iinc 3 1, 3) := by decide +kernel
theorem dX6_digest_49 : decode cX6_digest 49 = .ok (.goto (-16), 3) := by decide +kernel
theorem dX6_digest_52 : decode cX6_digest 52 = .ok (.iconst 0, 1) := by decide +kernel
theorem dX6_digest_53 : decode cX6_digest 53 = .ok (.istore_n 3, 1) := by decide +kernel
theorem dX6_digest_54 : decode cX6_digest 54 = .ok (.iload_n 3, 1) := by decide +kernel
theorem dX6_digest_55 : decode cX6_digest 55 = .ok (.aload_n 0, 1) := by decide +kernel
theorem dX6_digest_56 : decode cX6_digest 56 = .ok (.getfield 22, 3) := by decide +kernel
theorem dX6_digest_59 : decode cX6_digest 59 = .ok (.invokevirtual 104, 3) := by decide +kernel
theorem dX6_digest_62 : decode cX6_digest 62 = .ok (.if_icmp .ge 39, 3) := by decide +kernel
theorem dX6_digest_65 : decode cX6_digest 65 = .ok (.iconst 0, 1) := by decide +kernel
theorem dX6_digest_66 : decode cX6_digest 66 = .ok (.istore 4, 2) := by decide +kernel
theorem dX6_digest_68 : decode cX6_digest 68 = .ok (.iload 4, 2) := by decide +kernel
theorem dX6_digest_70 : decode cX6_digest 70 = .ok (.iconst 3, 1) := by decide +kernel
theorem dX6_digest_71 : decode cX6_digest 71 = .ok (.if_icmp .gt 24, 3) := by decide +kernel
theorem dX6_digest_74 : decode cX6_digest 74 = .ok (.lload_n 1, 1) := by decide +kernel
theorem dX6_digest_75 : decode cX6_digest 75 = .ok (.ldc2_w 380, 3) := by decide +kernel
theorem dX6_digest_78 : decode cX6_digest 78 = .ok (.lmul, 1) := by decide +kernel
theorem dX6_digest_79 : decode cX6_digest 79 = .ok (.aload_n 0, 1) := by decide +kernel
theorem dX6_digest_80 : decode cX6_digest 80 = .ok (.iload_n 3, 1) := by decide +kernel
theorem dX6_digest_81 : decode cX6_digest 81 = .ok (.iload 4, 2) := by decide +kernel
theorem dX6_digest_83 : decode cX6_digest 83 = .ok (.invokevirtual 389, 3) := by decide +kernel
theorem dX6_digest_86 : decode cX6_digest 86 = .ok (.i2l, 1) := by decide +kernel
theorem dX6_digest_87 : decode cX6_digest 87 = .ok (.ladd, 1) := by decide +kernel
theorem dX6_digest_88 : decode cX6_digest 88 = .ok (.lstore_n 1, 1) := by decide +kernel
theorem dX6_digest_89 : decode cX6_digest 89 = .ok (.iinc 4 1, 3) := by decide +kernel
theorem dX6_digest_92 : decode cX6_digest 92 = .ok (.goto (-24), 3) := by decide +kernel
theorem dX6_digest_95 : decode cX6_digest 95 = .ok (.iinc 3 1, 3) := by decide +kernel
theorem dX6_digest_98 : decode cX6_digest 98 = .ok (.goto (-44), 3) := by decide +kernel
theorem dX6_digest_101 : decode cX6_digest 101 = .ok (.iconst 0, 1) := by decide +kernel
theorem dX6_digest_102 : decode cX6_digest 102 = .ok (.istore_n 3, 1) := by decide +kernel
theorem dX6_digest_103 : decode cX6_digest 103 = .ok (.iload_n 3, 1) := by decide +kernel
theorem dX6_digest_104 : decode cX6_digest 104 = .ok (.aload_n 0, 1) := by decide +kernel
theorem dX6_digest_105 : decode cX6_digest 105 = .ok (.getfield 25, 3) := by decide +kernel
theorem dX6_digest_108 : decode cX6_digest 108 = .ok (.invokevirtual 104, 3) := by decide +kernel
theorem dX6_digest_111 : decode cX6_digest 111 = .ok (.if_icmp .ge 40, 3) := by decide +kernel
theorem dX6_digest_114 : decode cX6_digest 114 = .ok (.iconst 0, 1) := by decide +kernel
theorem dX6_digest_115 : decode cX6_digest 115 = .ok (.istore 4, 2) := by decide +kernel
theorem dX6_digest_117 : decode cX6_digest 117 = .ok (.iload 4, 2) := by decide +kernel
theorem dX6_digest_119 : decode cX6_digest 119 = .ok (.bipush 9, 2) := by decide +kernel
theorem dX6_digest_121 : decode cX6_digest 121 = .ok (.if_icmp .gt 24, 3) := by decide +kernel
theorem dX6_digest_124 : decode cX6_digest 124 = .ok (.lload_n 1, 1) := by decide +kernel
theorem dX6_digest_125 : decode cX6_digest 125 = .ok (.ldc2_w 380, 3) := by decide +kernel
theorem dX6_digest_128 : decode cX6_digest 128 = .ok (.lmul, 1) := by decide +kernel
theorem dX6_digest_129 : decode cX6_digest 129 = .ok (.aload_n 0, 1) := by decide +kernel
theorem dX6_digest_130 : decode cX6_digest 130 = .ok (.iload_n 3, 1) := by decide +kernel
theorem dX6_digest_131 : decode cX6_digest 131 = .ok (.iload 4, 2) := by decide +kernel
theorem dX6_digest_133 : decode cX6_digest 133 = .ok (.invokevirtual 392, 3) := by decide +kernel
theorem dX6_digest_136 : decode cX6_digest 136 = .ok (.i2l, 1) := by decide +kernel
theorem dX6_digest_137 : decode cX6_digest 137 = .ok (.ladd, 1) := by decide +kernel
theorem dX6_digest_138 : decode cX6_digest 138 = .ok (.lstore_n 1, 1) := by decide +kernel
theorem dX6_digest_139 : decode cX6_digest 139 = .ok (.iinc 4 1, 3) := by decide +kernel
theorem dX6_digest_142 : decode cX6_digest 142 = .ok (.goto (-25), 3) := by decide +kernel
theorem dX6_digest_145 : decode cX6_digest 145 = .ok (.iinc 3 1, 3) := by decide +kernel
theorem dX6_digest_148 : decode cX6_digest 148 = .ok (.goto (-45), 3) := by decide +kernel
theorem dX6_digest_151 : decode cX6_digest 151 = .ok (.lload_n 1, 1) := by decide +kernel
theorem dX6_digest_152 : decode cX6_digest 152 = .ok (.ldc2_w 380, 3) := by decide +kernel
theorem dX6_digest_155 : decode cX6_digest 155 = .ok (.lmul, 1) := by decide +kernel
theorem dX6_digest_156 : decode cX6_digest 156 = .ok (.aload_n 0, 1) := by decide +kernel
theorem dX6_digest_157 : decode cX6_digest 157 = .ok (.iconst 0, 1) := by decide +kernel
theorem dX6_digest_158 : decode cX6_digest 158 = .ok (.iconst 0, 1) := by decide +kernel
theorem dX6_digest_159 : decode cX6_digest 159 = .ok (.bipush 9, 2) := by decide +kernel
theorem dX6_digest_161 : decode cX6_digest 161 = .ok (.invokevirtual 395, 3) := by decide +kernel
theorem dX6_digest_164 : decode cX6_digest 164 = .ok (.i2l, 1) := by decide +kernel
theorem dX6_digest_165 : decode cX6_digest 165 = .ok (.ladd, 1) := by decide +kernel
theorem dX6_digest_166 : decode cX6_digest 166 = .ok (.lstore_n 1, 1) := by decide +kernel
theorem dX6_digest_167 : decode cX6_digest 167 = .ok (.lload_n 1, 1) := by decide +kernel
theorem dX6_digest_168 : decode cX6_digest 168 = .ok (.ldc2_w 380, 3) := by decide +kernel
theorem dX6_digest_171 : decode cX6_digest 171 = .ok (.lmul, 1) := by decide +kernel
theorem dX6_digest_172 : decode cX6_digest 172 = .ok (.aload_n 0, 1) := by decide +kernel
theorem dX6_digest_173 : decode cX6_digest 173 = .ok (.iconst 1, 1) := by decide +kernel
theorem dX6_digest_174 : decode cX6_digest 174 = .ok (.iconst 3, 1) := by decide +kernel
theorem dX6_digest_175 : decode cX6_digest 175 = .ok (.iconst 5, 1) := by decide +kernel
theorem dX6_digest_176 : decode cX6_digest 176 = .ok (.invokevirtual 395, 3) := by decide +kernel
theorem dX6_digest_179 : decode cX6_digest 179 = .ok (.i2l, 1) := by decide +kernel
theorem dX6_digest_180 : decode cX6_digest 180 = .ok (.ladd, 1) := by decide +kernel
theorem dX6_digest_181 : decode cX6_digest 181 = .ok (.lreturn, 1) := by decide +kernel
theorem dX6_digestSection_0 : decode cX6_digestSection 0 = .ok (.lload_n 1, 1) := by decide +kernel
theorem dX6_digestSection_1 : decode cX6_digestSection 1 = .ok (.lstore 4, 2) := by decide +kernel
theorem dX6_digestSection_3 : decode cX6_digestSection 3 = .ok (.iconst 0, 1) := by decide +kernel
theorem dX6_digestSection_4 : decode cX6_digestSection 4 = .ok (.istore 6, 2) := by decide +kernel
theorem dX6_digestSection_6 : decode cX6_digestSection 6 = .ok (.iload 6, 2) := by decide +kernel
theorem dX6_digestSection_8 : decode cX6_digestSection 8 = .ok (.bipush 7, 2) := by decide +kernel
theorem dX6_digestSection_10 : decode cX6_digestSection 10 = .ok (.if_icmp .gt 26, 3) := by decide +kernel
theorem dX6_digestSection_13 : decode cX6_digestSection 13 = .ok (.lload 4, 2) := by decide +kernel
theorem dX6_digestSection_15 : decode cX6_digestSection 15 = .ok (.ldc2_w 380, 3) := by decide +kernel
theorem dX6_digestSection_18 : decode cX6_digestSection 18 = .ok (.lmul, 1) := by decide +kernel
theorem dX6_digestSection_19 : decode cX6_digestSection 19 = .ok (.aload_n 0, 1) := by decide +kernel
theorem dX6_digestSection_20 : decode cX6_digestSection 20 = .ok (.iload_n 3, 1) := by decide +kernel
theorem dX6_digestSection_21 : decode cX6_digestSection 21 = .ok (.iload 6, 2) := by decide +kernel
theorem dX6_digestSection_23 : decode cX6_digestSection 23 = .ok (.invokevirtual 399, 3) := by decide +kernel
theorem dX6_digestSection_26 : decode cX6_digestSection 26 = .ok (.i2l, 1) := by decide +kernel
theorem dX6_digestSection_27 : decode cX6_digestSection 27 = .ok (.ladd, 1) := by decide +kernel
theorem dX6_digestSection_28 : decode cX6_digestSection 28 = .ok (.lstore 4, 2) := by decide +kernel
theorem dX6_digestSection_30 : decode cX6_digestSection 30 = .ok (.iinc 6 1, 3) := by decide +kernel
theorem dX6_digestSection_33 : decode cX6_digestSection 33 = .ok (.goto (-27), 3) := by decide +kernel
theorem dX6_digestSection_36 : decode cX6_digestSection 36 = .ok (.iconst 0, 1) := by decide +kernel
theorem dX6_digestSection_37 : decode cX6_digestSection 37 = .ok (.istore 6, 2) := by decide +kernel
theorem dX6_digestSection_39 : decode cX6_digestSection 39 = .ok (.iload 6, 2) := by decide +kernel
theorem dX6_digestSection_41 : decode cX6_digestSection 41 = .ok (.iconst 4, 1) := by decide +kernel
theorem dX6_digestSection_42 : decode cX6_digestSection 42 = .ok (.if_icmp .gt 26, 3) := by decide +kernel
theorem dX6_digestSection_45 : decode cX6_digestSection 45 = .ok (.lload 4, 2) := by decide +kernel
theorem dX6_digestSection_47 : decode cX6_digestSection 47 = .ok (.ldc2_w 380, 3) := by decide +kernel
theorem dX6_digestSection_50 : decode cX6_digestSection 50 = .ok (.lmul, 1) := by decide +kernel
theorem dX6_digestSection_51 : decode cX6_digestSection 51 = .ok (.aload_n 0, 1) := by decide +kernel
theorem dX6_digestSection_52 : decode cX6_digestSection 52 = .ok (.iload_n 3, 1) := by decide +kernel
theorem dX6_digestSection_53 : decode cX6_digestSection 53 = .ok (.iload 6, 2) := by decide +kernel
theorem dX6_digestSection_55 : decode cX6_digestSection 55 = .ok (.invokevirtual 402, 3) := by decide +kernel
theorem dX6_digestSection_58 : decode cX6_digestSection 58 = .ok (.i2l, 1) := by decide +kernel
theorem dX6_digestSection_59 : decode cX6_digestSection 59 = .ok (.ladd, 1) := by decide +kernel
theorem dX6_digestSection_60 : decode cX6_digestSection 60 = .ok (.lstore 4, 2) := by decide +kernel
theorem dX6_digestSection_62 : decode cX6_digestSection 62 = .ok (.iinc 6 1, 3) := by decide +kernel
theorem dX6_digestSection_65 : decode cX6_digestSection 65 = .ok (.goto (-26), 3) := by decide +kernel
theorem dX6_digestSection_68 : decode cX6_digestSection 68 = .ok (.lload 4, 2) := by decide +kernel
theorem dX6_digestSection_70 : decode cX6_digestSection 70 = .ok (.ldc2_w 380, 3) := by decide +kernel
theorem dX6_digestSection_73 : decode cX6_digestSection 73 = .ok (.lmul, 1) := by decide +kernel
theorem dX6_digestSection_74 : decode cX6_digestSection 74 = .ok (.aload_n 0, 1) := by decide +kernel
theorem dX6_digestSection_75 : decode cX6_digestSection 75 = .ok (.iload_n 3, 1) := by decide +kernel
theorem dX6_digestSection_76 : decode cX6_digestSection 76 = .ok (.iconst 0, 1) := by decide +kernel
theorem dX6_digestSection_77 : decode cX6_digestSection 77 = .ok (.invokevirtual 405, 3) := by decide +kernel
theorem dX6_digestSection_80 : decode cX6_digestSection 80 = .ok (.i2l, 1) := by decide +kernel
theorem dX6_digestSection_81 : decode cX6_digestSection 81 = .ok (.ladd, 1) := by decide +kernel
theorem dX6_digestSection_82 : decode cX6_digestSection 82 = .ok (.lstore 4, 2) := by decide +kernel
theorem dX6_digestSection_84 : decode cX6_digestSection 84 = .ok (.lload 4, 2) := by decide +kernel
theorem dX6_digestSection_86 : decode cX6_digestSection 86 = .ok (.ldc2_w 380, 3) := by decide +kernel
theorem dX6_digestSection_89 : decode cX6_digestSection 89 = .ok (.lmul, 1) := by decide +kernel
theorem dX6_digestSection_90 : decode cX6_digestSection 90 = .ok (.aload_n 0, 1) := by decide +kernel
theorem dX6_digestSection_91 : decode cX6_digestSection 91 = .ok (.iload_n 3, 1) := by decide +kernel
theorem dX6_digestSection_92 : decode cX6_digestSection 92 = .ok (.iconst 1, 1) := by decide +kernel
theorem dX6_digestSection_93 : decode cX6_digestSection 93 = .ok (.invokevirtual 405, 3) := by decide +kernel
theorem dX6_digestSection_96 : decode cX6_digestSection 96 = .ok (.i2l, 1) := by decide +kernel
theorem dX6_digestSection_97 : decode cX6_digestSection 97 = .ok (.ladd, 1) := by decide +kernel
theorem dX6_digestSection_98 : decode cX6_digestSection 98 = .ok (.lstore 4, 2) := by decide +kernel
theorem dX6_digestSection_100 : decode cX6_digestSection 100 = .ok (.lload 4, 2) := by decide +kernel
theorem dX6_digestSection_102 : decode cX6_digestSection 102 = .ok (.ldc2_w 380, 3) := by decide +kernel
theorem dX6_digestSection_105 : decode cX6_digestSection 105 = .ok (.lmul, 1) := by decide +kernel
theorem dX6_digestSection_106 : decode cX6_digestSection 106 = .ok (.aload_n 0, 1) := by decide +kernel
theorem dX6_digestSection_107 : decode cX6_digestSection 107 = .ok (.iload_n 3, 1) := by decide +kernel
theorem dX6_digestSection_108 : decode cX6_digestSection 108 = .ok (.invokevirtual 409, 3) := by decide +kernel
theorem dX6_digestSection_111 : decode cX6_digestSection 111 = .ok (.i2l, 1) := by decide +kernel
theorem dX6_digestSection_112 : decode cX6_digestSection 112 = .ok (.ladd, 1) := by decide +kernel
theorem dX6_digestSection_113 : decode cX6_digestSection 113 = .ok (.lstore 4, 2) := by decide +kernel
theorem dX6_digestSection_115 : decode cX6_digestSection 115 = .ok (.lload 4, 2) := by decide +kernel
theorem dX6_digestSection_117 : decode cX6_digestSection 117 = .ok (.ldc2_w 380, 3) := by decide +kernel
theorem dX6_digestSection_120 : decode cX6_digestSection 120 = .ok (.lmul, 1) := by decide +kernel
theorem dX6_digestSection_121 : decode cX6_digestSection 121 = .ok (.aload_n 0, 1) := by decide +kernel
theorem dX6_digestSection_122 : decode cX6_digestSection 122 = .ok (.iload_n 3, 1) := by decide +kernel
theorem dX6_digestSection_123 : decode cX6_digestSection 123 = .ok (.bipush 20, 2) := by decide +kernel
theorem dX6_digestSection_125 : decode cX6_digestSection 125 = .ok (.invokevirtual 412, 3) := by decide +kernel
theorem dX6_digestSection_128 : decode cX6_digestSection 128 = .ok (.i2l, 1) := by decide +kernel
theorem dX6_digestSection_129 : decode cX6_digestSection 129 = .ok (.ladd, 1) := by decide +kernel
theorem dX6_digestSection_130 : decode cX6_digestSection 130 = .ok (.lstore 4, 2) := by decide +kernel
theorem dX6_digestSection_132 : decode cX6_digestSection 132 = .ok (.lload 4, 2) := by decide +kernel
theorem dX6_digestSection_134 : decode cX6_digestSection 134 = .ok (.ldc2_w 380, 3) := by decide +kernel
theorem dX6_digestSection_137 : decode cX6_digestSection 137 = .ok (.lmul, 1) := by decide +kernel
theorem dX6_digestSection_138 : decode cX6_digestSection 138 = .ok (.aload_n 0, 1) := by decide +kernel
theorem dX6_digestSection_139 : decode cX6_digestSection 139 = .ok (.iload_n 3, 1) := by decide +kernel
theorem dX6_digestSection_140 : decode cX6_digestSection 140 = .ok (.bipush 20, 2) := by decide +kernel
theorem dX6_digestSection_142 : decode cX6_digestSection 142 = .ok (.bipush 30, 2) := by decide +kernel
theorem dX6_digestSection_144 : decode cX6_digestSection 144 = .ok (.invokevirtual 415, 3) := by decide +kernel
theorem dX6_digestSection_147 : decode cX6_digestSection 147 = .ok (.i2l, 1) := by decide +kernel
theorem dX6_digestSection_148 : decode cX6_digestSection 148 = .ok (.ladd, 1) := by decide +kernel
theorem dX6_digestSection_149 : decode cX6_digestSection 149 = .ok (.lreturn, 1) := by decide +kernel
theorem dX6_checkSection_0 : decode cX6_checkSection 0 = .ok (.iload_n 1, 1) := by decide +kernel
theorem dX6_checkSection_1 : decode cX6_checkSection 1 = .ok (.ifCond .lt 9, 3) := by decide +kernel
theorem dX6_checkSection_4 : decode cX6_checkSection 4 = .ok (.iload_n 1, 1) := by decide +kernel
theorem dX6_checkSection_5 : decode cX6_checkSection 5 = .ok (.bipush 20, 2) := by decide +kernel
theorem dX6_checkSection_7 : decode cX6_checkSection 7 = .ok (.if_icmp .lt 14, 3) := by decide +kernel
theorem dX6_checkSection_10 : decode cX6_checkSection 10 = .ok (.new 125, 3) := by decide +kernel
theorem dX6_checkSection_13 : decode cX6_checkSection 13 = .ok (.dup, 1) := by decide +kernel
theorem dX6_checkSection_14 : decode cX6_checkSection 14 = .ok (.ldc_w 418, 3) := by decide +kernel
theorem dX6_checkSection_17 : decode cX6_checkSection 17 = .ok (.invokespecial 129, 3) := by decide +kernel
theorem dX6_checkSection_20 : decode cX6_checkSection 20 = .ok (.athrow, 1) := by decide +kernel
theorem dX6_checkSection_21 : decode cX6_checkSection 21 = .ok (.return_, 1) := by decide +kernel
theorem dX6_sectionAt_0 : decode cX6_sectionAt 0 = .ok (.aload_n 0, 1) := by decide +kernel
theorem dX6_sectionAt_1 : decode cX6_sectionAt 1 = .ok (.iload_n 1, 1) := by decide +kernel
theorem dX6_sectionAt_2 : decode cX6_sectionAt 2 = .ok (.invokevirtual 340, 3) := by decide +kernel
theorem dX6_sectionAt_5 : decode cX6_sectionAt 5 = .ok (.aload_n 0, 1) := by decide +kernel
theorem dX6_sectionAt_6 : decode cX6_sectionAt 6 = .ok (.getfield 11, 3) := by decide +kernel
theorem dX6_sectionAt_9 : decode cX6_sectionAt 9 = .ok (.iload_n 1, 1) := by decide +kernel
theorem dX6_sectionAt_10 : decode cX6_sectionAt 10 = .ok (.aaload, 1) := by decide +kernel
theorem dX6_sectionAt_11 : decode cX6_sectionAt 11 = .ok (.areturn, 1) := by decide +kernel
theorem dX6_machineAt_0 : decode cX6_machineAt 0 = .ok (.iload_n 1, 1) := by decide +kernel
theorem dX6_machineAt_1 : decode cX6_machineAt 1 = .ok (.ifCond .lt 14, 3) := by decide +kernel
theorem dX6_machineAt_4 : decode cX6_machineAt 4 = .ok (.iload_n 1, 1) := by decide +kernel
theorem dX6_machineAt_5 : decode cX6_machineAt 5 = .ok (.aload_n 0, 1) := by decide +kernel
theorem dX6_machineAt_6 : decode cX6_machineAt 6 = .ok (.getfield 22, 3) := by decide +kernel
theorem dX6_machineAt_9 : decode cX6_machineAt 9 = .ok (.invokevirtual 104, 3) := by decide +kernel
theorem dX6_machineAt_12 : decode cX6_machineAt 12 = .ok (.if_icmp .lt 14, 3) := by decide +kernel
theorem dX6_machineAt_15 : decode cX6_machineAt 15 = .ok (.new 125, 3) := by decide +kernel
theorem dX6_machineAt_18 : decode cX6_machineAt 18 = .ok (.dup, 1) := by decide +kernel
theorem dX6_machineAt_19 : decode cX6_machineAt 19 = .ok (.ldc_w 420, 3) := by decide +kernel
theorem dX6_machineAt_22 : decode cX6_machineAt 22 = .ok (.invokespecial 129, 3) := by decide +kernel
theorem dX6_machineAt_25 : decode cX6_machineAt 25 = .ok (.athrow, 1) := by decide +kernel
theorem dX6_machineAt_26 : decode cX6_machineAt 26 = .ok (.aload_n 0, 1) := by decide +kernel
theorem dX6_machineAt_27 : decode cX6_machineAt 27 = .ok (.getfield 22, 3) := by decide +kernel
theorem dX6_machineAt_30 : decode cX6_machineAt 30 = .ok (.iload_n 1, 1) := by decide +kernel
theorem dX6_machineAt_31 : decode cX6_machineAt 31 = .ok (.invokevirtual 130, 3) := by decide +kernel
theorem dX6_machineAt_34 : decode cX6_machineAt 34 = .ok (.checkcast 148, 3) := by decide +kernel
theorem dX6_machineAt_37 : decode cX6_machineAt 37 = .ok (.areturn, 1) := by decide +kernel
theorem dX6_possessionAt_0 : decode cX6_possessionAt 0 = .ok (.iload_n 1, 1) := by decide +kernel
theorem dX6_possessionAt_1 : decode cX6_possessionAt 1 = .ok (.ifCond .lt 14, 3) := by decide +kernel
theorem dX6_possessionAt_4 : decode cX6_possessionAt 4 = .ok (.iload_n 1, 1) := by decide +kernel
theorem dX6_possessionAt_5 : decode cX6_possessionAt 5 = .ok (.aload_n 0, 1) := by decide +kernel
theorem dX6_possessionAt_6 : decode cX6_possessionAt 6 = .ok (.getfield 25, 3) := by decide +kernel
theorem dX6_possessionAt_9 : decode cX6_possessionAt 9 = .ok (.invokevirtual 104, 3) := by decide +kernel
theorem dX6_possessionAt_12 : decode cX6_possessionAt 12 = .ok (.if_icmp .lt 14, 3) := by decide +kernel
theorem dX6_possessionAt_15 : decode cX6_possessionAt 15 = .ok (.new 125, 3) := by decide +kernel
theorem dX6_possessionAt_18 : decode cX6_possessionAt 18 = .ok (.dup, 1) := by decide +kernel
theorem dX6_possessionAt_19 : decode cX6_possessionAt 19 = .ok (.ldc_w 422, 3) := by decide +kernel
theorem dX6_possessionAt_22 : decode cX6_possessionAt 22 = .ok (.invokespecial 129, 3) := by decide +kernel
theorem dX6_possessionAt_25 : decode cX6_possessionAt 25 = .ok (.athrow, 1) := by decide +kernel
theorem dX6_possessionAt_26 : decode cX6_possessionAt 26 = .ok (.aload_n 0, 1) := by decide +kernel
theorem dX6_possessionAt_27 : decode cX6_possessionAt 27 = .ok (.getfield 25, 3) := by decide +kernel
theorem dX6_possessionAt_30 : decode cX6_possessionAt 30 = .ok (.iload_n 1, 1) := by decide +kernel
theorem dX6_possessionAt_31 : decode cX6_possessionAt 31 = .ok (.invokevirtual 130, 3) := by decide +kernel
theorem dX6_possessionAt_34 : decode cX6_possessionAt 34 = .ok (.checkcast 176, 3) := by decide +kernel
theorem dX6_possessionAt_37 : decode cX6_possessionAt 37 = .ok (.areturn, 1) := by decide +kernel
theorem dX6_checkStretch_0 : decode cX6_checkStretch 0 = .ok (.iload_n 1, 1) := by decide +kernel
theorem dX6_checkStretch_1 : decode cX6_checkStretch 1 = .ok (.ifCond .lt 8, 3) := by decide +kernel
theorem dX6_checkStretch_4 : decode cX6_checkStretch 4 = .ok (.iload_n 1, 1) := by decide +kernel
theorem dX6_checkStretch_5 : decode cX6_checkStretch 5 = .ok (.iconst 2, 1) := by decide +kernel
theorem dX6_checkStretch_6 : decode cX6_checkStretch 6 = .ok (.if_icmp .lt 14, 3) := by decide +kernel
theorem dX6_checkStretch_9 : decode cX6_checkStretch 9 = .ok (.new 125, 3) := by decide +kernel
theorem dX6_checkStretch_12 : decode cX6_checkStretch 12 = .ok (.dup, 1) := by decide +kernel
theorem dX6_checkStretch_13 : decode cX6_checkStretch 13 = .ok (.ldc_w 336, 3) := by decide +kernel
theorem dX6_checkStretch_16 : decode cX6_checkStretch 16 = .ok (.invokespecial 129, 3) := by decide +kernel
theorem dX6_checkStretch_19 : decode cX6_checkStretch 19 = .ok (.athrow, 1) := by decide +kernel
theorem dX6_checkStretch_20 : decode cX6_checkStretch 20 = .ok (.iload_n 2, 1) := by decide +kernel
theorem dX6_checkStretch_21 : decode cX6_checkStretch 21 = .ok (.ifCond .lt 19, 3) := by decide +kernel
theorem dX6_checkStretch_24 : decode cX6_checkStretch 24 = .ok (.iload_n 2, 1) := by decide +kernel
theorem dX6_checkStretch_25 : decode cX6_checkStretch 25 = .ok (.bipush 10, 2) := by decide +kernel
theorem dX6_checkStretch_27 : decode cX6_checkStretch 27 = .ok (.if_icmp .ge 13, 3) := by decide +kernel
theorem dX6_checkStretch_30 : decode cX6_checkStretch 30 = .ok (.iload_n 3, 1) := by decide +kernel
theorem dX6_checkStretch_31 : decode cX6_checkStretch 31 = .ok (.ifCond .lt 9, 3) := by decide +kernel
theorem dX6_checkStretch_34 : decode cX6_checkStretch 34 = .ok (.iload_n 3, 1) := by decide +kernel
theorem dX6_checkStretch_35 : decode cX6_checkStretch 35 = .ok (.bipush 10, 2) := by decide +kernel
theorem dX6_checkStretch_37 : decode cX6_checkStretch 37 = .ok (.if_icmp .lt 14, 3) := by decide +kernel
theorem dX6_checkStretch_40 : decode cX6_checkStretch 40 = .ok (.new 125, 3) := by decide +kernel
theorem dX6_checkStretch_43 : decode cX6_checkStretch 43 = .ok (.dup, 1) := by decide +kernel
theorem dX6_checkStretch_44 : decode cX6_checkStretch 44 = .ok (.ldc_w 424, 3) := by decide +kernel
theorem dX6_checkStretch_47 : decode cX6_checkStretch 47 = .ok (.invokespecial 129, 3) := by decide +kernel
theorem dX6_checkStretch_50 : decode cX6_checkStretch 50 = .ok (.athrow, 1) := by decide +kernel
theorem dX6_checkStretch_51 : decode cX6_checkStretch 51 = .ok (.iload_n 3, 1) := by decide +kernel
theorem dX6_checkStretch_52 : decode cX6_checkStretch 52 = .ok (.iload_n 2, 1) := by decide +kernel
theorem dX6_checkStretch_53 : decode cX6_checkStretch 53 = .ok (.if_icmp .ge 14, 3) := by decide +kernel
theorem dX6_checkStretch_56 : decode cX6_checkStretch 56 = .ok (.new 72, 3) := by decide +kernel
theorem dX6_checkStretch_59 : decode cX6_checkStretch 59 = .ok (.dup, 1) := by decide +kernel
theorem dX6_checkStretch_60 : decode cX6_checkStretch 60 = .ok (.ldc_w 426, 3) := by decide +kernel
theorem dX6_checkStretch_63 : decode cX6_checkStretch 63 = .ok (.invokespecial 76, 3) := by decide +kernel
theorem dX6_checkStretch_66 : decode cX6_checkStretch 66 = .ok (.athrow, 1) := by decide +kernel
theorem dX6_checkStretch_67 : decode cX6_checkStretch 67 = .ok (.return_, 1) := by decide +kernel
theorem dX6_checkTrains_0 : decode cX6_checkTrains 0 = .ok (.iload_n 1, 1) := by decide +kernel
theorem dX6_checkTrains_1 : decode cX6_checkTrains 1 = .ok (.ifCond .lt 9, 3) := by decide +kernel
theorem dX6_checkTrains_4 : decode cX6_checkTrains 4 = .ok (.iload_n 1, 1) := by decide +kernel
theorem dX6_checkTrains_5 : decode cX6_checkTrains 5 = .ok (.bipush 40, 2) := by decide +kernel
theorem dX6_checkTrains_7 : decode cX6_checkTrains 7 = .ok (.if_icmp .le 14, 3) := by decide +kernel
theorem dX6_checkTrains_10 : decode cX6_checkTrains 10 = .ok (.new 72, 3) := by decide +kernel
theorem dX6_checkTrains_13 : decode cX6_checkTrains 13 = .ok (.dup, 1) := by decide +kernel
theorem dX6_checkTrains_14 : decode cX6_checkTrains 14 = .ok (.ldc_w 428, 3) := by decide +kernel
theorem dX6_checkTrains_17 : decode cX6_checkTrains 17 = .ok (.invokespecial 76, 3) := by decide +kernel
theorem dX6_checkTrains_20 : decode cX6_checkTrains 20 = .ok (.athrow, 1) := by decide +kernel
theorem dX6_checkTrains_21 : decode cX6_checkTrains 21 = .ok (.return_, 1) := by decide +kernel
theorem dX6_passDay_0 : decode cX6_passDay 0 = .ok (.aload_n 0, 1) := by decide +kernel
theorem dX6_passDay_1 : decode cX6_passDay 1 = .ok (.aload_n 0, 1) := by decide +kernel
theorem dX6_passDay_2 : decode cX6_passDay 2 = .ok (.getfield 42, 3) := by decide +kernel
theorem dX6_passDay_5 : decode cX6_passDay 5 = .ok (.invokevirtual 430, 3) := by decide +kernel
theorem dX6_passDay_8 : decode cX6_passDay 8 = .ok (.aload_n 0, 1) := by decide +kernel
theorem dX6_passDay_9 : decode cX6_passDay 9 = .ok (.dup, 1) := by decide +kernel
theorem dX6_passDay_10 : decode cX6_passDay 10 = .ok (.getfield 42, 3) := by decide +kernel
theorem dX6_passDay_13 : decode cX6_passDay 13 = .ok (.iconst 1, 1) := by decide +kernel
theorem dX6_passDay_14 : decode cX6_passDay 14 = .ok (.iadd, 1) := by decide +kernel
theorem dX6_passDay_15 : decode cX6_passDay 15 = .ok (.putfield 42, 3) := by decide +kernel
theorem dX6_passDay_18 : decode cX6_passDay 18 = .ok (.aload_n 0, 1) := by decide +kernel
theorem dX6_passDay_19 : decode cX6_passDay 19 = .ok (.iload_n 2, 1) := by decide +kernel
theorem dX6_passDay_20 : decode cX6_passDay 20 = .ok (.putfield 46, 3) := by decide +kernel
theorem dX6_passDay_23 : decode cX6_passDay 23 = .ok (.iconst 0, 1) := by decide +kernel
theorem dX6_passDay_24 : decode cX6_passDay 24 = .ok (.istore_n 3, 1) := by decide +kernel
theorem dX6_passDay_25 : decode cX6_passDay 25 = .ok (.iload_n 3, 1) := by decide +kernel
theorem dX6_passDay_26 : decode cX6_passDay 26 = .ok (.bipush 20, 2) := by decide +kernel
theorem dX6_passDay_28 : decode cX6_passDay 28 = .ok (.if_icmp .ge 77, 3) := by decide +kernel
theorem dX6_passDay_31 : decode cX6_passDay 31 = .ok (.aload_n 0, 1) := by decide +kernel
theorem dX6_passDay_32 : decode cX6_passDay 32 = .ok (.getfield 11, 3) := by decide +kernel
theorem dX6_passDay_35 : decode cX6_passDay 35 = .ok (.iload_n 3, 1) := by decide +kernel
theorem dX6_passDay_36 : decode cX6_passDay 36 = .ok (.aaload, 1) := by decide +kernel
theorem dX6_passDay_37 : decode cX6_passDay 37 = .ok (.iload_n 1, 1) := by decide +kernel
theorem dX6_passDay_38 : decode cX6_passDay 38 = .ok (.invokevirtual 353, 3) := by decide +kernel
theorem dX6_passDay_41 : decode cX6_passDay 41 = .ok (.aload_n 0, 1) := by decide +kernel
theorem dX6_passDay_42 : decode cX6_passDay 42 = .ok (.dup, 1) := by decide +kernel
theorem dX6_passDay_43 : decode cX6_passDay 43 = .ok (.getfield 49, 3) := by decide +kernel
theorem dX6_passDay_46 : decode cX6_passDay 46 = .ok (.iload_n 1, 1) := by decide +kernel
theorem dX6_passDay_47 : decode cX6_passDay 47 = .ok (.aload_n 0, 1) := by decide +kernel
theorem dX6_passDay_48 : decode cX6_passDay 48 = .ok (.getfield 11, 3) := by decide +kernel
theorem dX6_passDay_51 : decode cX6_passDay 51 = .ok (.iload_n 3, 1) := by decide +kernel
theorem dX6_passDay_52 : decode cX6_passDay 52 = .ok (.aaload, 1) := by decide +kernel
theorem dX6_passDay_53 : decode cX6_passDay 53 = .ok (.getfield 79, 3) := by decide +kernel
theorem dX6_passDay_56 : decode cX6_passDay 56 = .ok (.invokestatic 433, 3) := by decide +kernel
theorem dX6_passDay_59 : decode cX6_passDay 59 = .ok (.iadd, 1) := by decide +kernel
theorem dX6_passDay_60 : decode cX6_passDay 60 = .ok (.putfield 49, 3) := by decide +kernel
theorem dX6_passDay_63 : decode cX6_passDay 63 = .ok (.aload_n 0, 1) := by decide +kernel
theorem dX6_passDay_64 : decode cX6_passDay 64 = .ok (.aload_n 0, 1) := by decide +kernel
theorem dX6_passDay_65 : decode cX6_passDay 65 = .ok (.getfield 11, 3) := by decide +kernel
theorem dX6_passDay_68 : decode cX6_passDay 68 = .ok (.iload_n 3, 1) := by decide +kernel
theorem dX6_passDay_69 : decode cX6_passDay 69 = .ok (.aaload, 1) := by decide +kernel
theorem dX6_passDay_70 : decode cX6_passDay 70 = .ok (.invokevirtual 436, 3) := by decide +kernel
theorem dX6_passDay_73 : decode cX6_passDay 73 = .ok (.aload_n 0, 1) := by decide +kernel
theorem dX6_passDay_74 : decode cX6_passDay 74 = .ok (.getfield 11, 3) := by decide +kernel
theorem dX6_passDay_77 : decode cX6_passDay 77 = .ok (.iload_n 3, 1) := by decide +kernel
theorem dX6_passDay_78 : decode cX6_passDay 78 = .ok (.aaload, 1) := by decide +kernel
theorem dX6_passDay_79 : decode cX6_passDay 79 = .ok (.aload_n 0, 1) := by decide +kernel
theorem dX6_passDay_80 : decode cX6_passDay 80 = .ok (.getfield 46, 3) := by decide +kernel
theorem dX6_passDay_83 : decode cX6_passDay 83 = .ok (.invokevirtual 350, 3) := by decide +kernel
theorem dX6_passDay_86 : decode cX6_passDay 86 = .ok (.ifCond .eq 13, 3) := by decide +kernel
theorem dX6_passDay_89 : decode cX6_passDay 89 = .ok (.aload_n 0, 1) := by decide +kernel
theorem dX6_passDay_90 : decode cX6_passDay 90 = .ok (.dup, 1) := by decide +kernel
theorem dX6_passDay_91 : decode cX6_passDay 91 = .ok (.getfield 52, 3) := by decide +kernel
theorem dX6_passDay_94 : decode cX6_passDay 94 = .ok (.iconst 1, 1) := by decide +kernel
theorem dX6_passDay_95 : decode cX6_passDay 95 = .ok (.iadd, 1) := by decide +kernel
theorem dX6_passDay_96 : decode cX6_passDay 96 = .ok (.putfield 52, 3) := by decide +kernel
theorem dX6_passDay_99 : decode cX6_passDay 99 = .ok (.iinc 3 1, 3) := by decide +kernel
theorem dX6_passDay_102 : decode cX6_passDay 102 = .ok (.goto (-77), 3) := by decide +kernel
theorem dX6_passDay_105 : decode cX6_passDay 105 = .ok (.return_, 1) := by decide +kernel
theorem dX6_endNightsOf_0 : decode cX6_endNightsOf 0 = .ok (.iconst 0, 1) := by decide +kernel
theorem dX6_endNightsOf_1 : decode cX6_endNightsOf 1 = .ok (.istore_n 2, 1) := by decide +kernel
theorem dX6_endNightsOf_2 : decode cX6_endNightsOf 2 = .ok (.iload_n 2, 1) := by decide +kernel
theorem dX6_endNightsOf_3 : decode cX6_endNightsOf 3 = .ok (.aload_n 0, 1) := by decide +kernel
theorem dX6_endNightsOf_4 : decode cX6_endNightsOf 4 = .ok (.getfield 25, 3) := by decide +kernel
theorem dX6_endNightsOf_7 : decode cX6_endNightsOf 7 = .ok (.invokevirtual 104, 3) := by decide +kernel
theorem dX6_endNightsOf_10 : decode cX6_endNightsOf 10 = .ok (.if_icmp .ge 66, 3) := by decide +kernel
theorem dX6_endNightsOf_13 : decode cX6_endNightsOf 13 = .ok (.aload_n 0, 1) := by decide +kernel
theorem dX6_endNightsOf_14 : decode cX6_endNightsOf 14 = .ok (.getfield 25, 3) := by decide +kernel
theorem dX6_endNightsOf_17 : decode cX6_endNightsOf 17 = .ok (.iload_n 2, 1) := by decide +kernel
theorem dX6_endNightsOf_18 : decode cX6_endNightsOf 18 = .ok (.invokevirtual 130, 3) := by decide +kernel
theorem dX6_endNightsOf_21 : decode cX6_endNightsOf 21 = .ok (.checkcast 176, 3) := by decide +kernel
theorem dX6_endNightsOf_24 : decode cX6_endNightsOf 24 = .ok (.astore_n 3, 1) := by decide +kernel
theorem dX6_endNightsOf_25 : decode cX6_endNightsOf 25 = .ok (.aload_n 3, 1) := by decide +kernel
theorem dX6_endNightsOf_26 : decode cX6_endNightsOf 26 = .ok (.getfield 227, 3) := by decide +kernel
theorem dX6_endNightsOf_29 : decode cX6_endNightsOf 29 = .ok (.iload_n 1, 1) := by decide +kernel
theorem dX6_endNightsOf_30 : decode cX6_endNightsOf 30 = .ok (.if_icmp .ne 18, 3) := by decide +kernel
theorem dX6_endNightsOf_33 : decode cX6_endNightsOf 33 = .ok (.aload_n 3, 1) := by decide +kernel
theorem dX6_endNightsOf_34 : decode cX6_endNightsOf 34 = .ok (.getfield 191, 3) := by decide +kernel
theorem dX6_endNightsOf_37 : decode cX6_endNightsOf 37 = .ok (.ifCond .ne 11, 3) := by decide +kernel
theorem dX6_endNightsOf_40 : decode cX6_endNightsOf 40 = .ok (.aload_n 3, 1) := by decide +kernel
theorem dX6_endNightsOf_41 : decode cX6_endNightsOf 41 = .ok (.iconst 3, 1) := by decide +kernel
theorem dX6_endNightsOf_42 : decode cX6_endNightsOf 42 = .ok (.putfield 191, 3) := by decide +kernel
theorem dX6_endNightsOf_45 : decode cX6_endNightsOf 45 = .ok (.goto 25, 3) := by decide +kernel
theorem dX6_endNightsOf_48 : decode cX6_endNightsOf 48 = .ok (.aload_n 3, 1) := by decide +kernel
theorem dX6_endNightsOf_49 : decode cX6_endNightsOf 49 = .ok (.getfield 227, 3) := by decide +kernel
theorem dX6_endNightsOf_52 : decode cX6_endNightsOf 52 = .ok (.iload_n 1, 1) := by decide +kernel
theorem dX6_endNightsOf_53 : decode cX6_endNightsOf 53 = .ok (.if_icmp .ne 17, 3) := by decide +kernel
theorem dX6_endNightsOf_56 : decode cX6_endNightsOf 56 = .ok (.aload_n 3, 1) := by decide +kernel
theorem dX6_endNightsOf_57 : decode cX6_endNightsOf 57 = .ok (.getfield 191, 3) := by decide +kernel
theorem dX6_endNightsOf_60 : decode cX6_endNightsOf 60 = .ok (.iconst 1, 1) := by decide +kernel
theorem dX6_endNightsOf_61 : decode cX6_endNightsOf 61 = .ok (.if_icmp .ne 9, 3) := by decide +kernel
theorem dX6_endNightsOf_64 : decode cX6_endNightsOf 64 = .ok (.aload_n 0, 1) := by decide +kernel
theorem dX6_endNightsOf_65 : decode cX6_endNightsOf 65 = .ok (.aload_n 3, 1) := by decide +kernel
theorem dX6_endNightsOf_66 : decode cX6_endNightsOf 66 = .ok (.iconst 2, 1) := by decide +kernel
theorem dX6_endNightsOf_67 : decode cX6_endNightsOf 67 = .ok (.invokevirtual 255, 3) := by decide +kernel
theorem dX6_endNightsOf_70 : decode cX6_endNightsOf 70 = .ok (.iinc 2 1, 3) := by decide +kernel
theorem dX6_endNightsOf_73 : decode cX6_endNightsOf 73 = .ok (.goto (-71), 3) := by decide +kernel
theorem dX6_endNightsOf_76 : decode cX6_endNightsOf 76 = .ok (.return_, 1) := by decide +kernel
theorem dX6_breakIfCracked_0 : decode cX6_breakIfCracked 0 = .ok (.aload_n 1, 1) := by decide +kernel
theorem dX6_breakIfCracked_1 : decode cX6_breakIfCracked 1 = .ok (.getfield 114, 3) := by decide +kernel
theorem dX6_breakIfCracked_4 : decode cX6_breakIfCracked 4 = .ok (.getfield 277, 3) := by decide +kernel
theorem dX6_breakIfCracked_7 : decode cX6_breakIfCracked 7 = .ok (.bipush 60, 2) := by decide +kernel
theorem dX6_breakIfCracked_9 : decode cX6_breakIfCracked 9 = .ok (.if_icmp .lt 25, 3) := by decide +kernel
theorem dX6_breakIfCracked_12 : decode cX6_breakIfCracked 12 = .ok (.aload_n 1, 1) := by decide +kernel
theorem dX6_breakIfCracked_13 : decode cX6_breakIfCracked 13 = .ok (.getfield 79, 3) := by decide +kernel
theorem dX6_breakIfCracked_16 : decode cX6_breakIfCracked 16 = .ok (.ifCond .le 18, 3) := by decide +kernel
theorem dX6_breakIfCracked_19 : decode cX6_breakIfCracked 19 = .ok (.aload_n 1, 1) := by decide +kernel
theorem dX6_breakIfCracked_20 : decode cX6_breakIfCracked 20 = .ok (.iconst 0, 1) := by decide +kernel
theorem dX6_breakIfCracked_21 : decode cX6_breakIfCracked 21 = .ok (.putfield 79, 3) := by decide +kernel
theorem dX6_breakIfCracked_24 : decode cX6_breakIfCracked 24 = .ok (.aload_n 0, 1) := by decide +kernel
theorem dX6_breakIfCracked_25 : decode cX6_breakIfCracked 25 = .ok (.dup, 1) := by decide +kernel
theorem dX6_breakIfCracked_26 : decode cX6_breakIfCracked 26 = .ok (.getfield 55, 3) := by decide +kernel
theorem dX6_breakIfCracked_29 : decode cX6_breakIfCracked 29 = .ok (.iconst 1, 1) := by decide +kernel
theorem dX6_breakIfCracked_30 : decode cX6_breakIfCracked 30 = .ok (.iadd, 1) := by decide +kernel
theorem dX6_breakIfCracked_31 : decode cX6_breakIfCracked 31 = .ok (.putfield 55, 3) := by decide +kernel
theorem dX6_breakIfCracked_34 : decode cX6_breakIfCracked 34 = .ok (.return_, 1) := by decide +kernel
theorem dX6_delayCost_0 : decode cX6_delayCost 0 = .ok (.iload_n 0, 1) := by decide +kernel
theorem dX6_delayCost_1 : decode cX6_delayCost 1 = .ok (.sipush 160, 3) := by decide +kernel
theorem dX6_delayCost_4 : decode cX6_delayCost 4 = .ok (.iload_n 1, 1) := by decide +kernel
theorem dX6_delayCost_5 : decode cX6_delayCost 5 = .ok (.isub, 1) := by decide +kernel
theorem dX6_delayCost_6 : decode cX6_delayCost 6 = .ok (.imul, 1) := by decide +kernel
theorem dX6_delayCost_7 : decode cX6_delayCost 7 = .ok (.bipush 80, 2) := by decide +kernel
theorem dX6_delayCost_9 : decode cX6_delayCost 9 = .ok (.idiv, 1) := by decide +kernel
theorem dX6_delayCost_10 : decode cX6_delayCost 10 = .ok (.ireturn, 1) := by decide +kernel
theorem dX6_knowingMeasure_0 : decode cX6_knowingMeasure 0 = .ok (.aload_n 0, 1) := by decide +kernel
theorem dX6_knowingMeasure_1 : decode cX6_knowingMeasure 1 = .ok (.getfield 18, 3) := by decide +kernel
theorem dX6_knowingMeasure_4 : decode cX6_knowingMeasure 4 = .ok (.invokevirtual 104, 3) := by decide +kernel
theorem dX6_knowingMeasure_7 : decode cX6_knowingMeasure 7 = .ok (.iconst 1, 1) := by decide +kernel
theorem dX6_knowingMeasure_8 : decode cX6_knowingMeasure 8 = .ok (.isub, 1) := by decide +kernel
theorem dX6_knowingMeasure_9 : decode cX6_knowingMeasure 9 = .ok (.istore_n 2, 1) := by decide +kernel
theorem dX6_knowingMeasure_10 : decode cX6_knowingMeasure 10 = .ok (.iload_n 2, 1) := by decide +kernel
theorem dX6_knowingMeasure_11 : decode cX6_knowingMeasure 11 = .ok (.ifCond .lt 29, 3) := by decide +kernel
theorem dX6_knowingMeasure_14 : decode cX6_knowingMeasure 14 = .ok (.aload_n 0, 1) := by decide +kernel
theorem dX6_knowingMeasure_15 : decode cX6_knowingMeasure 15 = .ok (.getfield 18, 3) := by decide +kernel
theorem dX6_knowingMeasure_18 : decode cX6_knowingMeasure 18 = .ok (.iload_n 2, 1) := by decide +kernel
theorem dX6_knowingMeasure_19 : decode cX6_knowingMeasure 19 = .ok (.invokevirtual 130, 3) := by decide +kernel
theorem dX6_knowingMeasure_22 : decode cX6_knowingMeasure 22 = .ok (.checkcast 110, 3) := by decide +kernel
theorem dX6_knowingMeasure_25 : decode cX6_knowingMeasure 25 = .ok (.iload_n 1, 1) := by decide +kernel
theorem dX6_knowingMeasure_26 : decode cX6_knowingMeasure 26 = .ok (.invokevirtual 439, 3) := by decide +kernel
theorem dX6_knowingMeasure_29 : decode cX6_knowingMeasure 29 = .ok (.ifnull 5, 3) := by decide +kernel
theorem dX6_knowingMeasure_32 : decode cX6_knowingMeasure 32 = .ok (.iload_n 2, 1) := by decide +kernel
theorem dX6_knowingMeasure_33 : decode cX6_knowingMeasure 33 = .ok (.ireturn, 1) := by decide +kernel
theorem dX6_knowingMeasure_34 : decode cX6_knowingMeasure 34 = .ok (.iinc 2 (-1), 3) := by decide +kernel
theorem dX6_knowingMeasure_37 : decode cX6_knowingMeasure 37 = .ok (.goto (-27), 3) := by decide +kernel
theorem dX6_knowingMeasure_40 : decode cX6_knowingMeasure 40 = .ok (.iconst (-1), 1) := by decide +kernel
theorem dX6_knowingMeasure_41 : decode cX6_knowingMeasure 41 = .ok (.ireturn, 1) := by decide +kernel
theorem dX6_knownValues_0 : decode cX6_knownValues 0 = .ok (.aload_n 0, 1) := by decide +kernel
theorem dX6_knownValues_1 : decode cX6_knownValues 1 = .ok (.iload_n 1, 1) := by decide +kernel
theorem dX6_knownValues_2 : decode cX6_knownValues 2 = .ok (.invokevirtual 301, 3) := by decide +kernel
theorem dX6_knownValues_5 : decode cX6_knownValues 5 = .ok (.istore_n 2, 1) := by decide +kernel
theorem dX6_knownValues_6 : decode cX6_knownValues 6 = .ok (.iload_n 2, 1) := by decide +kernel
theorem dX6_knownValues_7 : decode cX6_knownValues 7 = .ok (.ifCond .lt 14, 3) := by decide +kernel
theorem dX6_knownValues_10 : decode cX6_knownValues 10 = .ok (.iload_n 2, 1) := by decide +kernel
theorem dX6_knownValues_11 : decode cX6_knownValues 11 = .ok (.aload_n 0, 1) := by decide +kernel
theorem dX6_knownValues_12 : decode cX6_knownValues 12 = .ok (.getfield 18, 3) := by decide +kernel
theorem dX6_knownValues_15 : decode cX6_knownValues 15 = .ok (.invokevirtual 104, 3) := by decide +kernel
theorem dX6_knownValues_18 : decode cX6_knownValues 18 = .ok (.if_icmp .lt 8, 3) := by decide +kernel
theorem dX6_knownValues_21 : decode cX6_knownValues 21 = .ok (.aload_n 0, 1) := by decide +kernel
theorem dX6_knownValues_22 : decode cX6_knownValues 22 = .ok (.getfield 33, 3) := by decide +kernel
theorem dX6_knownValues_25 : decode cX6_knownValues 25 = .ok (.areturn, 1) := by decide +kernel
theorem dX6_knownValues_26 : decode cX6_knownValues 26 = .ok (.aload_n 0, 1) := by decide +kernel
theorem dX6_knownValues_27 : decode cX6_knownValues 27 = .ok (.getfield 18, 3) := by decide +kernel
theorem dX6_knownValues_30 : decode cX6_knownValues 30 = .ok (.iload_n 2, 1) := by decide +kernel
theorem dX6_knownValues_31 : decode cX6_knownValues 31 = .ok (.invokevirtual 130, 3) := by decide +kernel
theorem dX6_knownValues_34 : decode cX6_knownValues 34 = .ok (.checkcast 110, 3) := by decide +kernel
theorem dX6_knownValues_37 : decode cX6_knownValues 37 = .ok (.iload_n 1, 1) := by decide +kernel
theorem dX6_knownValues_38 : decode cX6_knownValues 38 = .ok (.invokevirtual 439, 3) := by decide +kernel
theorem dX6_knownValues_41 : decode cX6_knownValues 41 = .ok (.astore_n 3, 1) := by decide +kernel
theorem dX6_knownValues_42 : decode cX6_knownValues 42 = .ok (.aload_n 3, 1) := by decide +kernel
theorem dX6_knownValues_43 : decode cX6_knownValues 43 = .ok (.ifnonnull 10, 3) := by decide +kernel
theorem dX6_knownValues_46 : decode cX6_knownValues 46 = .ok (.aload_n 0, 1) := by decide +kernel
theorem dX6_knownValues_47 : decode cX6_knownValues 47 = .ok (.getfield 33, 3) := by decide +kernel
theorem dX6_knownValues_50 : decode cX6_knownValues 50 = .ok (.goto 4, 3) := by decide +kernel
theorem dX6_knownValues_53 : decode cX6_knownValues 53 = .ok (.aload_n 3, 1) := by decide +kernel
theorem dX6_knownValues_54 : decode cX6_knownValues 54 = .ok (.areturn, 1) := by decide +kernel
theorem dX6_isOut_0 : decode cX6_isOut 0 = .ok (.iconst 0, 1) := by decide +kernel
theorem dX6_isOut_1 : decode cX6_isOut 1 = .ok (.istore_n 2, 1) := by decide +kernel
theorem dX6_isOut_2 : decode cX6_isOut 2 = .ok (.iload_n 2, 1) := by decide +kernel
theorem dX6_isOut_3 : decode cX6_isOut 3 = .ok (.aload_n 0, 1) := by decide +kernel
theorem dX6_isOut_4 : decode cX6_isOut 4 = .ok (.getfield 25, 3) := by decide +kernel
theorem dX6_isOut_7 : decode cX6_isOut 7 = .ok (.invokevirtual 104, 3) := by decide +kernel
theorem dX6_isOut_10 : decode cX6_isOut 10 = .ok (.if_icmp .ge 39, 3) := by decide +kernel
theorem dX6_isOut_13 : decode cX6_isOut 13 = .ok (.aload_n 0, 1) := by decide +kernel
theorem dX6_isOut_14 : decode cX6_isOut 14 = .ok (.getfield 25, 3) := by decide +kernel
theorem dX6_isOut_17 : decode cX6_isOut 17 = .ok (.iload_n 2, 1) := by decide +kernel
theorem dX6_isOut_18 : decode cX6_isOut 18 = .ok (.invokevirtual 130, 3) := by decide +kernel
theorem dX6_isOut_21 : decode cX6_isOut 21 = .ok (.checkcast 176, 3) := by decide +kernel
theorem dX6_isOut_24 : decode cX6_isOut 24 = .ok (.astore_n 3, 1) := by decide +kernel
theorem dX6_isOut_25 : decode cX6_isOut 25 = .ok (.aload_n 3, 1) := by decide +kernel
theorem dX6_isOut_26 : decode cX6_isOut 26 = .ok (.getfield 191, 3) := by decide +kernel
theorem dX6_isOut_29 : decode cX6_isOut 29 = .ok (.iconst 1, 1) := by decide +kernel
theorem dX6_isOut_30 : decode cX6_isOut 30 = .ok (.if_icmp .ne 13, 3) := by decide +kernel
theorem dX6_isOut_33 : decode cX6_isOut 33 = .ok (.aload_n 3, 1) := by decide +kernel
theorem dX6_isOut_34 : decode cX6_isOut 34 = .ok (.aload_n 1, 1) := by decide +kernel
theorem dX6_isOut_35 : decode cX6_isOut 35 = .ok (.invokevirtual 442, 3) := by decide +kernel
theorem dX6_isOut_38 : decode cX6_isOut 38 = .ok (.ifCond .eq 5, 3) := by decide +kernel
theorem dX6_isOut_41 : decode cX6_isOut 41 = .ok (.iconst 1, 1) := by decide +kernel
theorem dX6_isOut_42 : decode cX6_isOut 42 = .ok (.ireturn, 1) := by decide +kernel
theorem dX6_isOut_43 : decode cX6_isOut 43 = .ok (.iinc 2 1, 3) := by decide +kernel
theorem dX6_isOut_46 : decode cX6_isOut 46 = .ok (.goto (-44), 3) := by decide +kernel
theorem dX6_isOut_49 : decode cX6_isOut 49 = .ok (.iconst 0, 1) := by decide +kernel
theorem dX6_isOut_50 : decode cX6_isOut 50 = .ok (.ireturn, 1) := by decide +kernel
theorem dX6_isElsewhere_0 : decode cX6_isElsewhere 0 = .ok (.iconst 0, 1) := by decide +kernel
theorem dX6_isElsewhere_1 : decode cX6_isElsewhere 1 = .ok (.istore_n 3, 1) := by decide +kernel
theorem dX6_isElsewhere_2 : decode cX6_isElsewhere 2 = .ok (.iload_n 3, 1) := by decide +kernel
theorem dX6_isElsewhere_3 : decode cX6_isElsewhere 3 = .ok (.aload_n 0, 1) := by decide +kernel
theorem dX6_isElsewhere_4 : decode cX6_isElsewhere 4 = .ok (.getfield 25, 3) := by decide +kernel
theorem dX6_isElsewhere_7 : decode cX6_isElsewhere 7 = .ok (.invokevirtual 104, 3) := by decide +kernel
theorem dX6_isElsewhere_10 : decode cX6_isElsewhere 10 = .ok (.if_icmp .ge 59, 3) := by decide +kernel
theorem dX6_isElsewhere_13 : decode cX6_isElsewhere 13 = .ok (.aload_n 0, 1) := by decide +kernel
theorem dX6_isElsewhere_14 : decode cX6_isElsewhere 14 = .ok (.getfield 25, 3) := by decide +kernel
theorem dX6_isElsewhere_17 : decode cX6_isElsewhere 17 = .ok (.iload_n 3, 1) := by decide +kernel
theorem dX6_isElsewhere_18 : decode cX6_isElsewhere 18 = .ok (.invokevirtual 130, 3) := by decide +kernel
theorem dX6_isElsewhere_21 : decode cX6_isElsewhere 21 = .ok (.checkcast 176, 3) := by decide +kernel
theorem dX6_isElsewhere_24 : decode cX6_isElsewhere 24 = .ok (.astore 4, 2) := by decide +kernel
theorem dX6_isElsewhere_26 : decode cX6_isElsewhere 26 = .ok (.aload 4, 2) := by decide +kernel
theorem dX6_isElsewhere_28 : decode cX6_isElsewhere 28 = .ok (.aload_n 2, 1) := by decide +kernel
theorem dX6_isElsewhere_29 : decode cX6_isElsewhere 29 = .ok (.if_acmp .eq 34, 3) := by decide +kernel
theorem dX6_isElsewhere_32 : decode cX6_isElsewhere 32 = .ok (.aload 4, 2) := by decide +kernel
theorem dX6_isElsewhere_34 : decode cX6_isElsewhere 34 = .ok (.getfield 227, 3) := by decide +kernel
theorem dX6_isElsewhere_37 : decode cX6_isElsewhere 37 = .ok (.aload_n 2, 1) := by decide +kernel
theorem dX6_isElsewhere_38 : decode cX6_isElsewhere 38 = .ok (.getfield 227, 3) := by decide +kernel
theorem dX6_isElsewhere_41 : decode cX6_isElsewhere 41 = .ok (.if_icmp .ne 22, 3) := by decide +kernel
theorem dX6_isElsewhere_44 : decode cX6_isElsewhere 44 = .ok (.aload 4, 2) := by decide +kernel
theorem dX6_isElsewhere_46 : decode cX6_isElsewhere 46 = .ok (.invokevirtual 362, 3) := by decide +kernel
theorem dX6_isElsewhere_49 : decode cX6_isElsewhere 49 = .ok (.ifCond .eq 14, 3) := by decide +kernel
theorem dX6_isElsewhere_52 : decode cX6_isElsewhere 52 = .ok (.aload 4, 2) := by decide +kernel
theorem dX6_isElsewhere_54 : decode cX6_isElsewhere 54 = .ok (.aload_n 1, 1) := by decide +kernel
theorem dX6_isElsewhere_55 : decode cX6_isElsewhere 55 = .ok (.invokevirtual 442, 3) := by decide +kernel
theorem dX6_isElsewhere_58 : decode cX6_isElsewhere 58 = .ok (.ifCond .eq 5, 3) := by decide +kernel
theorem dX6_isElsewhere_61 : decode cX6_isElsewhere 61 = .ok (.iconst 1, 1) := by decide +kernel
theorem dX6_isElsewhere_62 : decode cX6_isElsewhere 62 = .ok (.ireturn, 1) := by decide +kernel
theorem dX6_isElsewhere_63 : decode cX6_isElsewhere 63 = .ok (.iinc 3 1, 3) := by decide +kernel
theorem dX6_isElsewhere_66 : decode cX6_isElsewhere 66 = .ok (.goto (-64), 3) := by decide +kernel
theorem dX6_isElsewhere_69 : decode cX6_isElsewhere 69 = .ok (.iconst 0, 1) := by decide +kernel
theorem dX6_isElsewhere_70 : decode cX6_isElsewhere 70 = .ok (.ireturn, 1) := by decide +kernel
theorem dX6_isFree_0 : decode cX6_isFree 0 = .ok (.iconst 0, 1) := by decide +kernel
theorem dX6_isFree_1 : decode cX6_isFree 1 = .ok (.istore 5, 2) := by decide +kernel
theorem dX6_isFree_3 : decode cX6_isFree 3 = .ok (.iload 5, 2) := by decide +kernel
theorem dX6_isFree_5 : decode cX6_isFree 5 = .ok (.aload_n 0, 1) := by decide +kernel
theorem dX6_isFree_6 : decode cX6_isFree 6 = .ok (.getfield 25, 3) := by decide +kernel
theorem dX6_isFree_9 : decode cX6_isFree 9 = .ok (.invokevirtual 104, 3) := by decide +kernel
theorem dX6_isFree_12 : decode cX6_isFree 12 = .ok (.if_icmp .ge 55, 3) := by decide +kernel
theorem dX6_isFree_15 : decode cX6_isFree 15 = .ok (.aload_n 0, 1) := by decide +kernel
theorem dX6_isFree_16 : decode cX6_isFree 16 = .ok (.getfield 25, 3) := by decide +kernel
theorem dX6_isFree_19 : decode cX6_isFree 19 = .ok (.iload 5, 2) := by decide +kernel
theorem dX6_isFree_21 : decode cX6_isFree 21 = .ok (.invokevirtual 130, 3) := by decide +kernel
theorem dX6_isFree_24 : decode cX6_isFree 24 = .ok (.checkcast 176, 3) := by decide +kernel
theorem dX6_isFree_27 : decode cX6_isFree 27 = .ok (.astore 6, 2) := by decide +kernel
theorem dX6_isFree_29 : decode cX6_isFree 29 = .ok (.aload 6, 2) := by decide +kernel
theorem dX6_isFree_31 : decode cX6_isFree 31 = .ok (.getfield 227, 3) := by decide +kernel
theorem dX6_isFree_34 : decode cX6_isFree 34 = .ok (.iload 4, 2) := by decide +kernel
theorem dX6_isFree_36 : decode cX6_isFree 36 = .ok (.if_icmp .ne 25, 3) := by decide +kernel
theorem dX6_isFree_39 : decode cX6_isFree 39 = .ok (.aload 6, 2) := by decide +kernel
theorem dX6_isFree_41 : decode cX6_isFree 41 = .ok (.getfield 191, 3) := by decide +kernel
theorem dX6_isFree_44 : decode cX6_isFree 44 = .ok (.iconst 4, 1) := by decide +kernel
theorem dX6_isFree_45 : decode cX6_isFree 45 = .ok (.if_icmp .eq 16, 3) := by decide +kernel
theorem dX6_isFree_48 : decode cX6_isFree 48 = .ok (.aload 6, 2) := by decide +kernel
theorem dX6_isFree_50 : decode cX6_isFree 50 = .ok (.iload_n 1, 1) := by decide +kernel
theorem dX6_isFree_51 : decode cX6_isFree 51 = .ok (.iload_n 2, 1) := by decide +kernel
theorem dX6_isFree_52 : decode cX6_isFree 52 = .ok (.iload_n 3, 1) := by decide +kernel
theorem dX6_isFree_53 : decode cX6_isFree 53 = .ok (.invokevirtual 445, 3) := by decide +kernel
theorem dX6_isFree_56 : decode cX6_isFree 56 = .ok (.ifCond .eq 5, 3) := by decide +kernel
theorem dX6_isFree_59 : decode cX6_isFree 59 = .ok (.iconst 0, 1) := by decide +kernel
theorem dX6_isFree_60 : decode cX6_isFree 60 = .ok (.ireturn, 1) := by decide +kernel
theorem dX6_isFree_61 : decode cX6_isFree 61 = .ok (.iinc 5 1, 3) := by decide +kernel
theorem dX6_isFree_64 : decode cX6_isFree 64 = .ok (.goto (-61), 3) := by decide +kernel
theorem dX6_isFree_67 : decode cX6_isFree 67 = .ok (.iconst 1, 1) := by decide +kernel
theorem dX6_isFree_68 : decode cX6_isFree 68 = .ok (.ireturn, 1) := by decide +kernel
theorem dX6_isTaken_0 : decode cX6_isTaken 0 = .ok (.iconst 0, 1) := by decide +kernel
theorem dX6_isTaken_1 : decode cX6_isTaken 1 = .ok (.istore_n 2, 1) := by decide +kernel
theorem dX6_isTaken_2 : decode cX6_isTaken 2 = .ok (.iload_n 2, 1) := by decide +kernel
theorem dX6_isTaken_3 : decode cX6_isTaken 3 = .ok (.aload_n 0, 1) := by decide +kernel
theorem dX6_isTaken_4 : decode cX6_isTaken 4 = .ok (.getfield 25, 3) := by decide +kernel
theorem dX6_isTaken_7 : decode cX6_isTaken 7 = .ok (.invokevirtual 104, 3) := by decide +kernel
theorem dX6_isTaken_10 : decode cX6_isTaken 10 = .ok (.if_icmp .ge 39, 3) := by decide +kernel
theorem dX6_isTaken_13 : decode cX6_isTaken 13 = .ok (.aload_n 0, 1) := by decide +kernel
theorem dX6_isTaken_14 : decode cX6_isTaken 14 = .ok (.getfield 25, 3) := by decide +kernel
theorem dX6_isTaken_17 : decode cX6_isTaken 17 = .ok (.iload_n 2, 1) := by decide +kernel
theorem dX6_isTaken_18 : decode cX6_isTaken 18 = .ok (.invokevirtual 130, 3) := by decide +kernel
theorem dX6_isTaken_21 : decode cX6_isTaken 21 = .ok (.checkcast 176, 3) := by decide +kernel
theorem dX6_isTaken_24 : decode cX6_isTaken 24 = .ok (.astore_n 3, 1) := by decide +kernel
theorem dX6_isTaken_25 : decode cX6_isTaken 25 = .ok (.aload_n 3, 1) := by decide +kernel
theorem dX6_isTaken_26 : decode cX6_isTaken 26 = .ok (.getfield 191, 3) := by decide +kernel
theorem dX6_isTaken_29 : decode cX6_isTaken 29 = .ok (.iconst 1, 1) := by decide +kernel
theorem dX6_isTaken_30 : decode cX6_isTaken 30 = .ok (.if_icmp .ne 13, 3) := by decide +kernel
theorem dX6_isTaken_33 : decode cX6_isTaken 33 = .ok (.aload_n 3, 1) := by decide +kernel
theorem dX6_isTaken_34 : decode cX6_isTaken 34 = .ok (.iload_n 1, 1) := by decide +kernel
theorem dX6_isTaken_35 : decode cX6_isTaken 35 = .ok (.invokevirtual 185, 3) := by decide +kernel
theorem dX6_isTaken_38 : decode cX6_isTaken 38 = .ok (.ifCond .eq 5, 3) := by decide +kernel
theorem dX6_isTaken_41 : decode cX6_isTaken 41 = .ok (.iconst 1, 1) := by decide +kernel
theorem dX6_isTaken_42 : decode cX6_isTaken 42 = .ok (.ireturn, 1) := by decide +kernel
theorem dX6_isTaken_43 : decode cX6_isTaken 43 = .ok (.iinc 2 1, 3) := by decide +kernel
theorem dX6_isTaken_46 : decode cX6_isTaken 46 = .ok (.goto (-44), 3) := by decide +kernel
theorem dX6_isTaken_49 : decode cX6_isTaken 49 = .ok (.iconst 0, 1) := by decide +kernel
theorem dX6_isTaken_50 : decode cX6_isTaken 50 = .ok (.ireturn, 1) := by decide +kernel
theorem dX6_signBeside_0 : decode cX6_signBeside 0 = .ok (.iload_n 1, 1) := by decide +kernel
theorem dX6_signBeside_1 : decode cX6_signBeside 1 = .ok (.bipush 10, 2) := by decide +kernel
theorem dX6_signBeside_3 : decode cX6_signBeside 3 = .ok (.if_icmp .ge 10, 3) := by decide +kernel
theorem dX6_signBeside_6 : decode cX6_signBeside 6 = .ok (.iload_n 1, 1) := by decide +kernel
theorem dX6_signBeside_7 : decode cX6_signBeside 7 = .ok (.bipush 10, 2) := by decide +kernel
theorem dX6_signBeside_9 : decode cX6_signBeside 9 = .ok (.iadd, 1) := by decide +kernel
theorem dX6_signBeside_10 : decode cX6_signBeside 10 = .ok (.goto 7, 3) := by decide +kernel
theorem dX6_signBeside_13 : decode cX6_signBeside 13 = .ok (.iload_n 1, 1) := by decide +kernel
theorem dX6_signBeside_14 : decode cX6_signBeside 14 = .ok (.bipush 10, 2) := by decide +kernel
theorem dX6_signBeside_16 : decode cX6_signBeside 16 = .ok (.isub, 1) := by decide +kernel
theorem dX6_signBeside_17 : decode cX6_signBeside 17 = .ok (.istore_n 2, 1) := by decide +kernel
theorem dX6_signBeside_18 : decode cX6_signBeside 18 = .ok (.aload_n 0, 1) := by decide +kernel
theorem dX6_signBeside_19 : decode cX6_signBeside 19 = .ok (.iload_n 2, 1) := by decide +kernel
theorem dX6_signBeside_20 : decode cX6_signBeside 20 = .ok (.invokevirtual 264, 3) := by decide +kernel
theorem dX6_signBeside_23 : decode cX6_signBeside 23 = .ok (.ifCond .eq 7, 3) := by decide +kernel
theorem dX6_signBeside_26 : decode cX6_signBeside 26 = .ok (.iconst 0, 1) := by decide +kernel
theorem dX6_signBeside_27 : decode cX6_signBeside 27 = .ok (.goto 11, 3) := by decide +kernel
theorem dX6_signBeside_30 : decode cX6_signBeside 30 = .ok (.aload_n 0, 1) := by decide +kernel
theorem dX6_signBeside_31 : decode cX6_signBeside 31 = .ok (.iload_n 2, 1) := by decide +kernel
theorem dX6_signBeside_32 : decode cX6_signBeside 32 = .ok (.invokevirtual 64, 3) := by decide +kernel
theorem dX6_signBeside_35 : decode cX6_signBeside 35 = .ok (.getfield 79, 3) := by decide +kernel
theorem dX6_signBeside_38 : decode cX6_signBeside 38 = .ok (.ireturn, 1) := by decide +kernel
theorem dX6_isWarned_0 : decode cX6_isWarned 0 = .ok (.iload_n 0, 1) := by decide +kernel
theorem dX6_isWarned_1 : decode cX6_isWarned 1 = .ok (.iload_n 1, 1) := by decide +kernel
theorem dX6_isWarned_2 : decode cX6_isWarned 2 = .ok (.invokestatic 372, 3) := by decide +kernel
theorem dX6_isWarned_5 : decode cX6_isWarned 5 = .ok (.istore_n 3, 1) := by decide +kernel
theorem dX6_isWarned_6 : decode cX6_isWarned 6 = .ok (.iload_n 3, 1) := by decide +kernel
theorem dX6_isWarned_7 : decode cX6_isWarned 7 = .ok (.ifCond .le 17, 3) := by decide +kernel
theorem dX6_isWarned_10 : decode cX6_isWarned 10 = .ok (.iload_n 2, 1) := by decide +kernel
theorem dX6_isWarned_11 : decode cX6_isWarned 11 = .ok (.bipush 36, 2) := by decide +kernel
theorem dX6_isWarned_13 : decode cX6_isWarned 13 = .ok (.imul, 1) := by decide +kernel
theorem dX6_isWarned_14 : decode cX6_isWarned 14 = .ok (.bipush 10, 2) := by decide +kernel
theorem dX6_isWarned_16 : decode cX6_isWarned 16 = .ok (.iload_n 3, 1) := by decide +kernel
theorem dX6_isWarned_17 : decode cX6_isWarned 17 = .ok (.imul, 1) := by decide +kernel
theorem dX6_isWarned_18 : decode cX6_isWarned 18 = .ok (.idiv, 1) := by decide +kernel
theorem dX6_isWarned_19 : decode cX6_isWarned 19 = .ok (.bipush 25, 2) := by decide +kernel
theorem dX6_isWarned_21 : decode cX6_isWarned 21 = .ok (.if_icmp .lt 7, 3) := by decide +kernel
theorem dX6_isWarned_24 : decode cX6_isWarned 24 = .ok (.iconst 1, 1) := by decide +kernel
theorem dX6_isWarned_25 : decode cX6_isWarned 25 = .ok (.goto 4, 3) := by decide +kernel
theorem dX6_isWarned_28 : decode cX6_isWarned 28 = .ok (.iconst 0, 1) := by decide +kernel
theorem dX6_isWarned_29 : decode cX6_isWarned 29 = .ok (.ireturn, 1) := by decide +kernel
theorem dX6_endNight_0 : decode cX6_endNight 0 = .ok (.aload_n 0, 1) := by decide +kernel
theorem dX6_endNight_1 : decode cX6_endNight 1 = .ok (.aload_n 1, 1) := by decide +kernel
theorem dX6_endNight_2 : decode cX6_endNight 2 = .ok (.invokevirtual 368, 3) := by decide +kernel
theorem dX6_endNight_5 : decode cX6_endNight 5 = .ok (.istore_n 3, 1) := by decide +kernel
theorem dX6_endNight_6 : decode cX6_endNight 6 = .ok (.iconst 0, 1) := by decide +kernel
theorem dX6_endNight_7 : decode cX6_endNight 7 = .ok (.istore 4, 2) := by decide +kernel
theorem dX6_endNight_9 : decode cX6_endNight 9 = .ok (.iload 4, 2) := by decide +kernel
theorem dX6_endNight_11 : decode cX6_endNight 11 = .ok (.aload_n 1, 1) := by decide +kernel
theorem dX6_endNight_12 : decode cX6_endNight 12 = .ok (.getfield 196, 3) := by decide +kernel
theorem dX6_endNight_15 : decode cX6_endNight 15 = .ok (.invokevirtual 104, 3) := by decide +kernel
theorem dX6_endNight_18 : decode cX6_endNight 18 = .ok (.if_icmp .ge 25, 3) := by decide +kernel
theorem dX6_endNight_21 : decode cX6_endNight 21 = .ok (.aload_n 0, 1) := by decide +kernel
theorem dX6_endNight_22 : decode cX6_endNight 22 = .ok (.aload_n 1, 1) := by decide +kernel
theorem dX6_endNight_23 : decode cX6_endNight 23 = .ok (.getfield 196, 3) := by decide +kernel
theorem dX6_endNight_26 : decode cX6_endNight 26 = .ok (.iload 4, 2) := by decide +kernel
theorem dX6_endNight_28 : decode cX6_endNight 28 = .ok (.invokevirtual 130, 3) := by decide +kernel
theorem dX6_endNight_31 : decode cX6_endNight 31 = .ok (.checkcast 222, 3) := by decide +kernel
theorem dX6_endNight_34 : decode cX6_endNight 34 = .ok (.invokevirtual 448, 3) := by decide +kernel
theorem dX6_endNight_37 : decode cX6_endNight 37 = .ok (.iinc 4 1, 3) := by decide +kernel
theorem dX6_endNight_40 : decode cX6_endNight 40 = .ok (.goto (-31), 3) := by decide +kernel
theorem dX6_endNight_43 : decode cX6_endNight 43 = .ok (.aload_n 1, 1) := by decide +kernel
theorem dX6_endNight_44 : decode cX6_endNight 44 = .ok (.iconst 2, 1) := by decide +kernel
theorem dX6_endNight_45 : decode cX6_endNight 45 = .ok (.putfield 191, 3) := by decide +kernel
theorem dX6_endNight_48 : decode cX6_endNight 48 = .ok (.aload_n 1, 1) := by decide +kernel
theorem dX6_endNight_49 : decode cX6_endNight 49 = .ok (.iconst 0, 1) := by decide +kernel
theorem dX6_endNight_50 : decode cX6_endNight 50 = .ok (.iload_n 3, 1) := by decide +kernel
theorem dX6_endNight_51 : decode cX6_endNight 51 = .ok (.aload_n 1, 1) := by decide +kernel
theorem dX6_endNight_52 : decode cX6_endNight 52 = .ok (.getfield 211, 3) := by decide +kernel
theorem dX6_endNight_55 : decode cX6_endNight 55 = .ok (.isub, 1) := by decide +kernel
theorem dX6_endNight_56 : decode cX6_endNight 56 = .ok (.invokestatic 372, 3) := by decide +kernel
theorem dX6_endNight_59 : decode cX6_endNight 59 = .ok (.iload_n 2, 1) := by decide +kernel
theorem dX6_endNight_60 : decode cX6_endNight 60 = .ok (.iadd, 1) := by decide +kernel
theorem dX6_endNight_61 : decode cX6_endNight 61 = .ok (.putfield 259, 3) := by decide +kernel
theorem dX6_endNight_64 : decode cX6_endNight 64 = .ok (.aload_n 0, 1) := by decide +kernel
theorem dX6_endNight_65 : decode cX6_endNight 65 = .ok (.dup, 1) := by decide +kernel
theorem dX6_endNight_66 : decode cX6_endNight 66 = .ok (.getfield 61, 3) := by decide +kernel
theorem dX6_endNight_69 : decode cX6_endNight 69 = .ok (.aload_n 1, 1) := by decide +kernel
theorem dX6_endNight_70 : decode cX6_endNight 70 = .ok (.getfield 259, 3) := by decide +kernel
theorem dX6_endNight_73 : decode cX6_endNight 73 = .ok (.iadd, 1) := by decide +kernel
theorem dX6_endNight_74 : decode cX6_endNight 74 = .ok (.putfield 61, 3) := by decide +kernel
theorem dX6_endNight_77 : decode cX6_endNight 77 = .ok (.aload_n 0, 1) := by decide +kernel
theorem dX6_endNight_78 : decode cX6_endNight 78 = .ok (.dup, 1) := by decide +kernel
theorem dX6_endNight_79 : decode cX6_endNight 79 = .ok (.getfield 49, 3) := by decide +kernel
theorem dX6_endNight_82 : decode cX6_endNight 82 = .ok (.bipush 20, 2) := by decide +kernel
theorem dX6_endNight_84 : decode cX6_endNight 84 = .ok (.aload_n 1, 1) := by decide +kernel
theorem dX6_endNight_85 : decode cX6_endNight 85 = .ok (.getfield 211, 3) := by decide +kernel
theorem dX6_endNight_88 : decode cX6_endNight 88 = .ok (.imul, 1) := by decide +kernel
theorem dX6_endNight_89 : decode cX6_endNight 89 = .ok (.iadd, 1) := by decide +kernel
theorem dX6_endNight_90 : decode cX6_endNight 90 = .ok (.putfield 49, 3) := by decide +kernel
theorem dX6_endNight_93 : decode cX6_endNight 93 = .ok (.aload_n 0, 1) := by decide +kernel
theorem dX6_endNight_94 : decode cX6_endNight 94 = .ok (.dup, 1) := by decide +kernel
theorem dX6_endNight_95 : decode cX6_endNight 95 = .ok (.getfield 49, 3) := by decide +kernel
theorem dX6_endNight_98 : decode cX6_endNight 98 = .ok (.bipush 30, 2) := by decide +kernel
theorem dX6_endNight_100 : decode cX6_endNight 100 = .ok (.iload_n 3, 1) := by decide +kernel
theorem dX6_endNight_101 : decode cX6_endNight 101 = .ok (.imul, 1) := by decide +kernel
theorem dX6_endNight_102 : decode cX6_endNight 102 = .ok (.iadd, 1) := by decide +kernel
theorem dX6_endNight_103 : decode cX6_endNight 103 = .ok (.putfield 49, 3) := by decide +kernel
theorem dX6_endNight_106 : decode cX6_endNight 106 = .ok (.aload_n 0, 1) := by decide +kernel
theorem dX6_endNight_107 : decode cX6_endNight 107 = .ok (.dup, 1) := by decide +kernel
theorem dX6_endNight_108 : decode cX6_endNight 108 = .ok (.getfield 49, 3) := by decide +kernel
theorem dX6_endNight_111 : decode cX6_endNight 111 = .ok (.bipush 100, 2) := by decide +kernel
theorem dX6_endNight_113 : decode cX6_endNight 113 = .ok (.aload_n 1, 1) := by decide +kernel
theorem dX6_endNight_114 : decode cX6_endNight 114 = .ok (.getfield 259, 3) := by decide +kernel
theorem dX6_endNight_117 : decode cX6_endNight 117 = .ok (.imul, 1) := by decide +kernel
theorem dX6_endNight_118 : decode cX6_endNight 118 = .ok (.iadd, 1) := by decide +kernel
theorem dX6_endNight_119 : decode cX6_endNight 119 = .ok (.putfield 49, 3) := by decide +kernel
theorem dX6_endNight_122 : decode cX6_endNight 122 = .ok (.return_, 1) := by decide +kernel
theorem dX6_carryOut_0 : decode cX6_carryOut 0 = .ok (.aload_n 1, 1) := by decide +kernel
theorem dX6_carryOut_1 : decode cX6_carryOut 1 = .ok (.getfield 452, 3) := by decide +kernel
theorem dX6_carryOut_4 : decode cX6_carryOut 4 = .ok (.getfield 161, 3) := by decide +kernel
theorem dX6_carryOut_7 : decode cX6_carryOut 7 = .ok (.aload_n 1, 1) := by decide +kernel
theorem dX6_carryOut_8 : decode cX6_carryOut 8 = .ok (.getfield 456, 3) := by decide +kernel
theorem dX6_carryOut_11 : decode cX6_carryOut 11 = .ok (.if_icmp .ge 25, 3) := by decide +kernel
theorem dX6_carryOut_14 : decode cX6_carryOut 14 = .ok (.aload_n 1, 1) := by decide +kernel
theorem dX6_carryOut_15 : decode cX6_carryOut 15 = .ok (.getfield 452, 3) := by decide +kernel
theorem dX6_carryOut_18 : decode cX6_carryOut 18 = .ok (.iconst 0, 1) := by decide +kernel
theorem dX6_carryOut_19 : decode cX6_carryOut 19 = .ok (.putfield 161, 3) := by decide +kernel
theorem dX6_carryOut_22 : decode cX6_carryOut 22 = .ok (.aload_n 1, 1) := by decide +kernel
theorem dX6_carryOut_23 : decode cX6_carryOut 23 = .ok (.getfield 452, 3) := by decide +kernel
theorem dX6_carryOut_26 : decode cX6_carryOut 26 = .ok (.dup, 1) := by decide +kernel
theorem dX6_carryOut_27 : decode cX6_carryOut 27 = .ok (.getfield 312, 3) := by decide +kernel
theorem dX6_carryOut_30 : decode cX6_carryOut 30 = .ok (.iconst 1, 1) := by decide +kernel
theorem dX6_carryOut_31 : decode cX6_carryOut 31 = .ok (.iadd, 1) := by decide +kernel
theorem dX6_carryOut_32 : decode cX6_carryOut 32 = .ok (.putfield 312, 3) := by decide +kernel
theorem dX6_carryOut_35 : decode cX6_carryOut 35 = .ok (.return_, 1) := by decide +kernel
theorem dX6_carryOut_36 : decode cX6_carryOut 36 = .ok (.aload_n 1, 1) := by decide +kernel
theorem dX6_carryOut_37 : decode cX6_carryOut 37 = .ok (.getfield 452, 3) := by decide +kernel
theorem dX6_carryOut_40 : decode cX6_carryOut 40 = .ok (.dup, 1) := by decide +kernel
theorem dX6_carryOut_41 : decode cX6_carryOut 41 = .ok (.getfield 161, 3) := by decide +kernel
theorem dX6_carryOut_44 : decode cX6_carryOut 44 = .ok (.aload_n 1, 1) := by decide +kernel
theorem dX6_carryOut_45 : decode cX6_carryOut 45 = .ok (.getfield 456, 3) := by decide +kernel
theorem dX6_carryOut_48 : decode cX6_carryOut 48 = .ok (.isub, 1) := by decide +kernel
theorem dX6_carryOut_49 : decode cX6_carryOut 49 = .ok (.putfield 161, 3) := by decide +kernel
theorem dX6_carryOut_52 : decode cX6_carryOut 52 = .ok (.aload_n 1, 1) := by decide +kernel
theorem dX6_carryOut_53 : decode cX6_carryOut 53 = .ok (.getfield 452, 3) := by decide +kernel
theorem dX6_carryOut_56 : decode cX6_carryOut 56 = .ok (.dup, 1) := by decide +kernel
theorem dX6_carryOut_57 : decode cX6_carryOut 57 = .ok (.getfield 309, 3) := by decide +kernel
theorem dX6_carryOut_60 : decode cX6_carryOut 60 = .ok (.iconst 1, 1) := by decide +kernel
theorem dX6_carryOut_61 : decode cX6_carryOut 61 = .ok (.iadd, 1) := by decide +kernel
theorem dX6_carryOut_62 : decode cX6_carryOut 62 = .ok (.putfield 309, 3) := by decide +kernel
theorem dX6_carryOut_65 : decode cX6_carryOut 65 = .ok (.aload_n 1, 1) := by decide +kernel
theorem dX6_carryOut_66 : decode cX6_carryOut 66 = .ok (.getfield 457, 3) := by decide +kernel
theorem dX6_carryOut_69 : decode cX6_carryOut 69 = .ok (.aload_n 1, 1) := by decide +kernel
theorem dX6_carryOut_70 : decode cX6_carryOut 70 = .ok (.getfield 452, 3) := by decide +kernel
theorem dX6_carryOut_73 : decode cX6_carryOut 73 = .ok (.getfield 201, 3) := by decide +kernel
theorem dX6_carryOut_76 : decode cX6_carryOut 76 = .ok (.aload_n 0, 1) := by decide +kernel
theorem dX6_carryOut_77 : decode cX6_carryOut 77 = .ok (.getfield 46, 3) := by decide +kernel
theorem dX6_carryOut_80 : decode cX6_carryOut 80 = .ok (.invokevirtual 460, 3) := by decide +kernel
theorem dX6_carryOut_83 : decode cX6_carryOut 83 = .ok (.aload_n 1, 1) := by decide +kernel
theorem dX6_carryOut_84 : decode cX6_carryOut 84 = .ok (.getfield 452, 3) := by decide +kernel
theorem dX6_carryOut_87 : decode cX6_carryOut 87 = .ok (.getfield 201, 3) := by decide +kernel
theorem dX6_carryOut_90 : decode cX6_carryOut 90 = .ok (.iconst 2, 1) := by decide +kernel
theorem dX6_carryOut_91 : decode cX6_carryOut 91 = .ok (.if_icmp .ne 15, 3) := by decide +kernel
theorem dX6_carryOut_94 : decode cX6_carryOut 94 = .ok (.aload_n 0, 1) := by decide +kernel
theorem dX6_carryOut_95 : decode cX6_carryOut 95 = .ok (.dup, 1) := by decide +kernel
theorem dX6_carryOut_96 : decode cX6_carryOut 96 = .ok (.getfield 49, 3) := by decide +kernel
theorem dX6_carryOut_99 : decode cX6_carryOut 99 = .ok (.sipush 300, 3) := by decide +kernel
theorem dX6_carryOut_102 : decode cX6_carryOut 102 = .ok (.iadd, 1) := by decide +kernel
theorem dX6_carryOut_103 : decode cX6_carryOut 103 = .ok (.putfield 49, 3) := by decide +kernel
theorem dX6_carryOut_106 : decode cX6_carryOut 106 = .ok (.return_, 1) := by decide +kernel
theorem dX6_hoursTaken_0 : decode cX6_hoursTaken 0 = .ok (.iconst 0, 1) := by decide +kernel
theorem dX6_hoursTaken_1 : decode cX6_hoursTaken 1 = .ok (.istore_n 2, 1) := by decide +kernel
theorem dX6_hoursTaken_2 : decode cX6_hoursTaken 2 = .ok (.iconst 0, 1) := by decide +kernel
theorem dX6_hoursTaken_3 : decode cX6_hoursTaken 3 = .ok (.istore_n 3, 1) := by decide +kernel
theorem dX6_hoursTaken_4 : decode cX6_hoursTaken 4 = .ok (.iload_n 3, 1) := by decide +kernel
theorem dX6_hoursTaken_5 : decode cX6_hoursTaken 5 = .ok (.aload_n 0, 1) := by decide +kernel
theorem dX6_hoursTaken_6 : decode cX6_hoursTaken 6 = .ok (.getfield 22, 3) := by decide +kernel
theorem dX6_hoursTaken_9 : decode cX6_hoursTaken 9 = .ok (.invokevirtual 104, 3) := by decide +kernel
theorem dX6_hoursTaken_12 : decode cX6_hoursTaken 12 = .ok (.if_icmp .ge 27, 3) := by decide +kernel
theorem dX6_hoursTaken_15 : decode cX6_hoursTaken 15 = .ok (.iload_n 2, 1) := by decide +kernel
theorem dX6_hoursTaken_16 : decode cX6_hoursTaken 16 = .ok (.aload_n 1, 1) := by decide +kernel
theorem dX6_hoursTaken_17 : decode cX6_hoursTaken 17 = .ok (.aload_n 0, 1) := by decide +kernel
theorem dX6_hoursTaken_18 : decode cX6_hoursTaken 18 = .ok (.getfield 22, 3) := by decide +kernel
theorem dX6_hoursTaken_21 : decode cX6_hoursTaken 21 = .ok (.iload_n 3, 1) := by decide +kernel
theorem dX6_hoursTaken_22 : decode cX6_hoursTaken 22 = .ok (.invokevirtual 130, 3) := by decide +kernel
theorem dX6_hoursTaken_25 : decode cX6_hoursTaken 25 = .ok (.checkcast 148, 3) := by decide +kernel
theorem dX6_hoursTaken_28 : decode cX6_hoursTaken 28 = .ok (.invokevirtual 463, 3) := by decide +kernel
theorem dX6_hoursTaken_31 : decode cX6_hoursTaken 31 = .ok (.iadd, 1) := by decide +kernel
theorem dX6_hoursTaken_32 : decode cX6_hoursTaken 32 = .ok (.istore_n 2, 1) := by decide +kernel
theorem dX6_hoursTaken_33 : decode cX6_hoursTaken 33 = .ok (.iinc 3 1, 3) := by decide +kernel
theorem dX6_hoursTaken_36 : decode cX6_hoursTaken 36 = .ok (.goto (-32), 3) := by decide +kernel
theorem dX6_hoursTaken_39 : decode cX6_hoursTaken 39 = .ok (.iload_n 2, 1) := by decide +kernel
theorem dX6_hoursTaken_40 : decode cX6_hoursTaken 40 = .ok (.ireturn, 1) := by decide +kernel
theorem dX6_costBehind_0 : decode cX6_costBehind 0 = .ok (.aload_n 0, 1) := by decide +kernel
theorem dX6_costBehind_1 : decode cX6_costBehind 1 = .ok (.getfield 38, 3) := by decide +kernel
theorem dX6_costBehind_4 : decode cX6_costBehind 4 = .ok (.aload_n 1, 1) := by decide +kernel
theorem dX6_costBehind_5 : decode cX6_costBehind 5 = .ok (.invokevirtual 346, 3) := by decide +kernel
theorem dX6_costBehind_8 : decode cX6_costBehind 8 = .ok (.iconst 0, 1) := by decide +kernel
theorem dX6_costBehind_9 : decode cX6_costBehind 9 = .ok (.istore 5, 2) := by decide +kernel
theorem dX6_costBehind_11 : decode cX6_costBehind 11 = .ok (.iload_n 2, 1) := by decide +kernel
theorem dX6_costBehind_12 : decode cX6_costBehind 12 = .ok (.iconst 3, 1) := by decide +kernel
theorem dX6_costBehind_13 : decode cX6_costBehind 13 = .ok (.if_icmp .eq 25, 3) := by decide +kernel
theorem dX6_costBehind_16 : decode cX6_costBehind 16 = .ok (.aload_n 0, 1) := by decide +kernel
theorem dX6_costBehind_17 : decode cX6_costBehind 17 = .ok (.getfield 38, 3) := by decide +kernel
theorem dX6_costBehind_20 : decode cX6_costBehind 20 = .ok (.iload_n 2, 1) := by decide +kernel
theorem dX6_costBehind_21 : decode cX6_costBehind 21 = .ok (.aload_n 0, 1) := by decide +kernel
theorem dX6_costBehind_22 : decode cX6_costBehind 22 = .ok (.getfield 46, 3) := by decide +kernel
theorem dX6_costBehind_25 : decode cX6_costBehind 25 = .ok (.invokevirtual 460, 3) := by decide +kernel
theorem dX6_costBehind_28 : decode cX6_costBehind 28 = .ok (.bipush 30, 2) := by decide +kernel
theorem dX6_costBehind_30 : decode cX6_costBehind 30 = .ok (.aload_n 1, 1) := by decide +kernel
theorem dX6_costBehind_31 : decode cX6_costBehind 31 = .ok (.iload_n 2, 1) := by decide +kernel
theorem dX6_costBehind_32 : decode cX6_costBehind 32 = .ok (.invokevirtual 204, 3) := by decide +kernel
theorem dX6_costBehind_35 : decode cX6_costBehind 35 = .ok (.imul, 1) := by decide +kernel
theorem dX6_costBehind_36 : decode cX6_costBehind 36 = .ok (.istore 5, 2) := by decide +kernel
theorem dX6_costBehind_38 : decode cX6_costBehind 38 = .ok (.iload_n 2, 1) := by decide +kernel
theorem dX6_costBehind_39 : decode cX6_costBehind 39 = .ok (.iconst 2, 1) := by decide +kernel
theorem dX6_costBehind_40 : decode cX6_costBehind 40 = .ok (.if_icmp .ne 9, 3) := by decide +kernel
theorem dX6_costBehind_43 : decode cX6_costBehind 43 = .ok (.iinc 5 300, 6) := by decide +kernel
theorem dX6_costBehind_49 : decode cX6_costBehind 49 = .ok (.iconst 0, 1) := by decide +kernel
theorem dX6_costBehind_50 : decode cX6_costBehind 50 = .ok (.istore 6, 2) := by decide +kernel
theorem dX6_costBehind_52 : decode cX6_costBehind 52 = .ok (.iload 6, 2) := by decide +kernel
theorem dX6_costBehind_54 : decode cX6_costBehind 54 = .ok (.iload 4, 2) := by decide +kernel
theorem dX6_costBehind_56 : decode cX6_costBehind 56 = .ok (.if_icmp .ge 37, 3) := by decide +kernel
theorem dX6_costBehind_59 : decode cX6_costBehind 59 = .ok (.aload_n 0, 1) := by decide +kernel
theorem dX6_costBehind_60 : decode cX6_costBehind 60 = .ok (.getfield 38, 3) := by decide +kernel
theorem dX6_costBehind_63 : decode cX6_costBehind 63 = .ok (.iload_n 3, 1) := by decide +kernel
theorem dX6_costBehind_64 : decode cX6_costBehind 64 = .ok (.invokevirtual 353, 3) := by decide +kernel
theorem dX6_costBehind_67 : decode cX6_costBehind 67 = .ok (.iload 5, 2) := by decide +kernel
theorem dX6_costBehind_69 : decode cX6_costBehind 69 = .ok (.iload_n 3, 1) := by decide +kernel
theorem dX6_costBehind_70 : decode cX6_costBehind 70 = .ok (.aload_n 0, 1) := by decide +kernel
theorem dX6_costBehind_71 : decode cX6_costBehind 71 = .ok (.getfield 38, 3) := by decide +kernel
theorem dX6_costBehind_74 : decode cX6_costBehind 74 = .ok (.aload_n 0, 1) := by decide +kernel
theorem dX6_costBehind_75 : decode cX6_costBehind 75 = .ok (.getfield 46, 3) := by decide +kernel
theorem dX6_costBehind_78 : decode cX6_costBehind 78 = .ok (.invokevirtual 289, 3) := by decide +kernel
theorem dX6_costBehind_81 : decode cX6_costBehind 81 = .ok (.invokestatic 433, 3) := by decide +kernel
theorem dX6_costBehind_84 : decode cX6_costBehind 84 = .ok (.iadd, 1) := by decide +kernel
theorem dX6_costBehind_85 : decode cX6_costBehind 85 = .ok (.istore 5, 2) := by decide +kernel
theorem dX6_costBehind_87 : decode cX6_costBehind 87 = .ok (.iinc 6 1, 3) := by decide +kernel
theorem dX6_costBehind_90 : decode cX6_costBehind 90 = .ok (.goto (-38), 3) := by decide +kernel
theorem dX6_costBehind_93 : decode cX6_costBehind 93 = .ok (.iload 5, 2) := by decide +kernel
theorem dX6_costBehind_95 : decode cX6_costBehind 95 = .ok (.ireturn, 1) := by decide +kernel
theorem dX6_countAligned_0 : decode cX6_countAligned 0 = .ok (.iconst 0, 1) := by decide +kernel
theorem dX6_countAligned_1 : decode cX6_countAligned 1 = .ok (.istore_n 1, 1) := by decide +kernel
theorem dX6_countAligned_2 : decode cX6_countAligned 2 = .ok (.iconst 0, 1) := by decide +kernel
theorem dX6_countAligned_3 : decode cX6_countAligned 3 = .ok (.istore_n 2, 1) := by decide +kernel
theorem dX6_countAligned_4 : decode cX6_countAligned 4 = .ok (.iload_n 2, 1) := by decide +kernel
theorem dX6_countAligned_5 : decode cX6_countAligned 5 = .ok (.aload_n 0, 1) := by decide +kernel
theorem dX6_countAligned_6 : decode cX6_countAligned 6 = .ok (.getfield 18, 3) := by decide +kernel
theorem dX6_countAligned_9 : decode cX6_countAligned 9 = .ok (.invokevirtual 104, 3) := by decide +kernel
theorem dX6_countAligned_12 : decode cX6_countAligned 12 = .ok (.if_icmp .ge 29, 3) := by decide +kernel
theorem dX6_countAligned_15 : decode cX6_countAligned 15 = .ok (.aload_n 0, 1) := by decide +kernel
theorem dX6_countAligned_16 : decode cX6_countAligned 16 = .ok (.getfield 18, 3) := by decide +kernel
theorem dX6_countAligned_19 : decode cX6_countAligned 19 = .ok (.iload_n 2, 1) := by decide +kernel
theorem dX6_countAligned_20 : decode cX6_countAligned 20 = .ok (.invokevirtual 130, 3) := by decide +kernel
theorem dX6_countAligned_23 : decode cX6_countAligned 23 = .ok (.checkcast 110, 3) := by decide +kernel
theorem dX6_countAligned_26 : decode cX6_countAligned 26 = .ok (.getfield 134, 3) := by decide +kernel
theorem dX6_countAligned_29 : decode cX6_countAligned 29 = .ok (.ifCond .eq 6, 3) := by decide +kernel
theorem dX6_countAligned_32 : decode cX6_countAligned 32 = .ok (.iinc 1 1, 3) := by decide +kernel
theorem dX6_countAligned_35 : decode cX6_countAligned 35 = .ok (.iinc 2 1, 3) := by decide +kernel
theorem dX6_countAligned_38 : decode cX6_countAligned 38 = .ok (.goto (-34), 3) := by decide +kernel
theorem dX6_countAligned_41 : decode cX6_countAligned 41 = .ok (.iload_n 1, 1) := by decide +kernel
theorem dX6_countAligned_42 : decode cX6_countAligned 42 = .ok (.ireturn, 1) := by decide +kernel
theorem dX6_countPossessions_0 : decode cX6_countPossessions 0 = .ok (.iconst 0, 1) := by decide +kernel
theorem dX6_countPossessions_1 : decode cX6_countPossessions 1 = .ok (.istore_n 2, 1) := by decide +kernel
theorem dX6_countPossessions_2 : decode cX6_countPossessions 2 = .ok (.iconst 0, 1) := by decide +kernel
theorem dX6_countPossessions_3 : decode cX6_countPossessions 3 = .ok (.istore_n 3, 1) := by decide +kernel
theorem dX6_countPossessions_4 : decode cX6_countPossessions 4 = .ok (.iload_n 3, 1) := by decide +kernel
theorem dX6_countPossessions_5 : decode cX6_countPossessions 5 = .ok (.aload_n 0, 1) := by decide +kernel
theorem dX6_countPossessions_6 : decode cX6_countPossessions 6 = .ok (.getfield 25, 3) := by decide +kernel
theorem dX6_countPossessions_9 : decode cX6_countPossessions 9 = .ok (.invokevirtual 104, 3) := by decide +kernel
theorem dX6_countPossessions_12 : decode cX6_countPossessions 12 = .ok (.if_icmp .ge 30, 3) := by decide +kernel
theorem dX6_countPossessions_15 : decode cX6_countPossessions 15 = .ok (.aload_n 0, 1) := by decide +kernel
theorem dX6_countPossessions_16 : decode cX6_countPossessions 16 = .ok (.getfield 25, 3) := by decide +kernel
theorem dX6_countPossessions_19 : decode cX6_countPossessions 19 = .ok (.iload_n 3, 1) := by decide +kernel
theorem dX6_countPossessions_20 : decode cX6_countPossessions 20 = .ok (.invokevirtual 130, 3) := by decide +kernel
theorem dX6_countPossessions_23 : decode cX6_countPossessions 23 = .ok (.checkcast 176, 3) := by decide +kernel
theorem dX6_countPossessions_26 : decode cX6_countPossessions 26 = .ok (.getfield 191, 3) := by decide +kernel
theorem dX6_countPossessions_29 : decode cX6_countPossessions 29 = .ok (.iload_n 1, 1) := by decide +kernel
theorem dX6_countPossessions_30 : decode cX6_countPossessions 30 = .ok (.if_icmp .ne 6, 3) := by decide +kernel
theorem dX6_countPossessions_33 : decode cX6_countPossessions 33 = .ok (.iinc 2 1, 3) := by decide +kernel
theorem dX6_countPossessions_36 : decode cX6_countPossessions 36 = .ok (.iinc 3 1, 3) := by decide +kernel
theorem dX6_countPossessions_39 : decode cX6_countPossessions 39 = .ok (.goto (-35), 3) := by decide +kernel
theorem dX6_countPossessions_42 : decode cX6_countPossessions 42 = .ok (.iload_n 2, 1) := by decide +kernel
theorem dX6_countPossessions_43 : decode cX6_countPossessions 43 = .ok (.ireturn, 1) := by decide +kernel
theorem dX6_countTrueRisks_0 : decode cX6_countTrueRisks 0 = .ok (.iconst 0, 1) := by decide +kernel
theorem dX6_countTrueRisks_1 : decode cX6_countTrueRisks 1 = .ok (.istore_n 1, 1) := by decide +kernel
theorem dX6_countTrueRisks_2 : decode cX6_countTrueRisks 2 = .ok (.iconst 0, 1) := by decide +kernel
theorem dX6_countTrueRisks_3 : decode cX6_countTrueRisks 3 = .ok (.istore_n 2, 1) := by decide +kernel
theorem dX6_countTrueRisks_4 : decode cX6_countTrueRisks 4 = .ok (.iload_n 2, 1) := by decide +kernel
theorem dX6_countTrueRisks_5 : decode cX6_countTrueRisks 5 = .ok (.bipush 20, 2) := by decide +kernel
theorem dX6_countTrueRisks_7 : decode cX6_countTrueRisks 7 = .ok (.if_icmp .ge 28, 3) := by decide +kernel
theorem dX6_countTrueRisks_10 : decode cX6_countTrueRisks 10 = .ok (.aload_n 0, 1) := by decide +kernel
theorem dX6_countTrueRisks_11 : decode cX6_countTrueRisks 11 = .ok (.getfield 11, 3) := by decide +kernel
theorem dX6_countTrueRisks_14 : decode cX6_countTrueRisks 14 = .ok (.iload_n 2, 1) := by decide +kernel
theorem dX6_countTrueRisks_15 : decode cX6_countTrueRisks 15 = .ok (.aaload, 1) := by decide +kernel
theorem dX6_countTrueRisks_16 : decode cX6_countTrueRisks 16 = .ok (.aload_n 0, 1) := by decide +kernel
theorem dX6_countTrueRisks_17 : decode cX6_countTrueRisks 17 = .ok (.getfield 46, 3) := by decide +kernel
theorem dX6_countTrueRisks_20 : decode cX6_countTrueRisks 20 = .ok (.invokevirtual 350, 3) := by decide +kernel
theorem dX6_countTrueRisks_23 : decode cX6_countTrueRisks 23 = .ok (.ifCond .eq 6, 3) := by decide +kernel
theorem dX6_countTrueRisks_26 : decode cX6_countTrueRisks 26 = .ok (.iinc 1 1, 3) := by decide +kernel
theorem dX6_countTrueRisks_29 : decode cX6_countTrueRisks 29 = .ok (.iinc 2 1, 3) := by decide +kernel
theorem dX6_countTrueRisks_32 : decode cX6_countTrueRisks 32 = .ok (.goto (-28), 3) := by decide +kernel
theorem dX6_countTrueRisks_35 : decode cX6_countTrueRisks 35 = .ok (.iload_n 1, 1) := by decide +kernel
theorem dX6_countTrueRisks_36 : decode cX6_countTrueRisks 36 = .ok (.ireturn, 1) := by decide +kernel
theorem dX6_countKnownRisks_0 : decode cX6_countKnownRisks 0 = .ok (.iconst 0, 1) := by decide +kernel
theorem dX6_countKnownRisks_1 : decode cX6_countKnownRisks 1 = .ok (.istore_n 1, 1) := by decide +kernel
theorem dX6_countKnownRisks_2 : decode cX6_countKnownRisks 2 = .ok (.iconst 0, 1) := by decide +kernel
theorem dX6_countKnownRisks_3 : decode cX6_countKnownRisks 3 = .ok (.istore_n 2, 1) := by decide +kernel
theorem dX6_countKnownRisks_4 : decode cX6_countKnownRisks 4 = .ok (.iload_n 2, 1) := by decide +kernel
theorem dX6_countKnownRisks_5 : decode cX6_countKnownRisks 5 = .ok (.bipush 20, 2) := by decide +kernel
theorem dX6_countKnownRisks_7 : decode cX6_countKnownRisks 7 = .ok (.if_icmp .ge 43, 3) := by decide +kernel
theorem dX6_countKnownRisks_10 : decode cX6_countKnownRisks 10 = .ok (.aload_n 0, 1) := by decide +kernel
theorem dX6_countKnownRisks_11 : decode cX6_countKnownRisks 11 = .ok (.getfield 11, 3) := by decide +kernel
theorem dX6_countKnownRisks_14 : decode cX6_countKnownRisks 14 = .ok (.iload_n 2, 1) := by decide +kernel
theorem dX6_countKnownRisks_15 : decode cX6_countKnownRisks 15 = .ok (.aaload, 1) := by decide +kernel
theorem dX6_countKnownRisks_16 : decode cX6_countKnownRisks 16 = .ok (.astore_n 3, 1) := by decide +kernel
theorem dX6_countKnownRisks_17 : decode cX6_countKnownRisks 17 = .ok (.aload_n 3, 1) := by decide +kernel
theorem dX6_countKnownRisks_18 : decode cX6_countKnownRisks 18 = .ok (.getfield 79, 3) := by decide +kernel
theorem dX6_countKnownRisks_21 : decode cX6_countKnownRisks 21 = .ok (.aload_n 0, 1) := by decide +kernel
theorem dX6_countKnownRisks_22 : decode cX6_countKnownRisks 22 = .ok (.iload_n 2, 1) := by decide +kernel
theorem dX6_countKnownRisks_23 : decode cX6_countKnownRisks 23 = .ok (.invokevirtual 294, 3) := by decide +kernel
theorem dX6_countKnownRisks_26 : decode cX6_countKnownRisks 26 = .ok (.aload_n 0, 1) := by decide +kernel
theorem dX6_countKnownRisks_27 : decode cX6_countKnownRisks 27 = .ok (.getfield 46, 3) := by decide +kernel
theorem dX6_countKnownRisks_30 : decode cX6_countKnownRisks 30 = .ok (.aload_n 3, 1) := by decide +kernel
theorem dX6_countKnownRisks_31 : decode cX6_countKnownRisks 31 = .ok (.getfield 286, 3) := by decide +kernel
theorem dX6_countKnownRisks_34 : decode cX6_countKnownRisks 34 = .ok (.isub, 1) := by decide +kernel
theorem dX6_countKnownRisks_35 : decode cX6_countKnownRisks 35 = .ok (.invokevirtual 298, 3) := by decide +kernel
theorem dX6_countKnownRisks_38 : decode cX6_countKnownRisks 38 = .ok (.if_icmp .le 6, 3) := by decide +kernel
theorem dX6_countKnownRisks_41 : decode cX6_countKnownRisks 41 = .ok (.iinc 1 1, 3) := by decide +kernel
theorem dX6_countKnownRisks_44 : decode cX6_countKnownRisks 44 = .ok (.iinc 2 1, 3) := by decide +kernel
theorem dX6_countKnownRisks_47 : decode cX6_countKnownRisks 47 = .ok (.goto (-43), 3) := by decide +kernel
theorem dX6_countKnownRisks_50 : decode cX6_countKnownRisks 50 = .ok (.iload_n 1, 1) := by decide +kernel
theorem dX6_countKnownRisks_51 : decode cX6_countKnownRisks 51 = .ok (.ireturn, 1) := by decide +kernel
theorem dX7_init_0 : decode cX7_init 0 = .ok (.aload_n 0, 1) := by decide +kernel
theorem dX7_init_1 : decode cX7_init 1 = .ok (.invokespecial 3, 3) := by decide +kernel
theorem dX7_init_4 : decode cX7_init 4 = .ok (.aload_n 0, 1) := by decide +kernel
theorem dX7_init_5 : decode cX7_init 5 = .ok (.bipush 20, 2) := by decide +kernel
theorem dX7_init_7 : decode cX7_init 7 = .ok (.bipush 7, 2) := by decide +kernel
theorem dX7_init_9 : decode cX7_init 9 = .ok (.multianewarray 9 2, 4) := by decide +kernel
theorem dX7_init_13 : decode cX7_init 13 = .ok (.putfield 11, 3) := by decide +kernel
theorem dX7_init_16 : decode cX7_init 16 = .ok (.aload_n 0, 1) := by decide +kernel
theorem dX7_init_17 : decode cX7_init 17 = .ok (.new 14, 3) := by decide +kernel
theorem dX7_init_20 : decode cX7_init 20 = .ok (.dup, 1) := by decide +kernel
theorem dX7_init_21 : decode cX7_init 21 = .ok (.invokespecial 16, 3) := by decide +kernel
theorem dX7_init_24 : decode cX7_init 24 = .ok (.putfield 17, 3) := by decide +kernel
theorem dX7_init_27 : decode cX7_init 27 = .ok (.aload_n 0, 1) := by decide +kernel
theorem dX7_init_28 : decode cX7_init 28 = .ok (.new 14, 3) := by decide +kernel
theorem dX7_init_31 : decode cX7_init 31 = .ok (.dup, 1) := by decide +kernel
theorem dX7_init_32 : decode cX7_init 32 = .ok (.invokespecial 16, 3) := by decide +kernel
theorem dX7_init_35 : decode cX7_init 35 = .ok (.putfield 21, 3) := by decide +kernel
theorem dX7_init_38 : decode cX7_init 38 = .ok (.aload_n 0, 1) := by decide +kernel
theorem dX7_init_39 : decode cX7_init 39 = .ok (.new 14, 3) := by decide +kernel
theorem dX7_init_42 : decode cX7_init 42 = .ok (.dup, 1) := by decide +kernel
theorem dX7_init_43 : decode cX7_init 43 = .ok (.invokespecial 16, 3) := by decide +kernel
theorem dX7_init_46 : decode cX7_init 46 = .ok (.putfield 24, 3) := by decide +kernel
theorem dX7_init_49 : decode cX7_init 49 = .ok (.aload_n 0, 1) := by decide +kernel
theorem dX7_init_50 : decode cX7_init 50 = .ok (.bipush 20, 2) := by decide +kernel
theorem dX7_init_52 : decode cX7_init 52 = .ok (.putfield 27, 3) := by decide +kernel
theorem dX7_init_55 : decode cX7_init 55 = .ok (.aload_n 0, 1) := by decide +kernel
theorem dX7_init_56 : decode cX7_init 56 = .ok (.getfield 11, 3) := by decide +kernel
theorem dX7_init_59 : decode cX7_init 59 = .ok (.astore_n 1, 1) := by decide +kernel
theorem dX7_init_60 : decode cX7_init 60 = .ok (.aload_n 1, 1) := by decide +kernel
theorem dX7_init_61 : decode cX7_init 61 = .ok (.arraylength, 1) := by decide +kernel
theorem dX7_init_62 : decode cX7_init 62 = .ok (.istore_n 2, 1) := by decide +kernel
theorem dX7_init_63 : decode cX7_init 63 = .ok (.iconst 0, 1) := by decide +kernel
theorem dX7_init_64 : decode cX7_init 64 = .ok (.istore_n 3, 1) := by decide +kernel
theorem dX7_init_65 : decode cX7_init 65 = .ok (.iload_n 3, 1) := by decide +kernel
theorem dX7_init_66 : decode cX7_init 66 = .ok (.iload_n 2, 1) := by decide +kernel
theorem dX7_init_67 : decode cX7_init 67 = .ok (.if_icmp .ge 28, 3) := by decide +kernel
theorem dX7_init_70 : decode cX7_init 70 = .ok (.aload_n 1, 1) := by decide +kernel
theorem dX7_init_71 : decode cX7_init 71 = .ok (.iload_n 3, 1) := by decide +kernel
theorem dX7_init_72 : decode cX7_init 72 = .ok (.aaload, 1) := by decide +kernel
theorem dX7_init_73 : decode cX7_init 73 = .ok (.astore 4, 2) := by decide +kernel
theorem dX7_init_75 : decode cX7_init 75 = .ok (.aload 4, 2) := by decide +kernel
theorem dX7_init_77 : decode cX7_init 77 = .ok (.iconst 4, 1) := by decide +kernel
theorem dX7_init_78 : decode cX7_init 78 = .ok (.bipush 27, 2) := by decide +kernel
theorem dX7_init_80 : decode cX7_init 80 = .ok (.iastore, 1) := by decide +kernel
theorem dX7_init_81 : decode cX7_init 81 = .ok (.aload 4, 2) := by decide +kernel
theorem dX7_init_83 : decode cX7_init 83 = .ok (.bipush 6, 2) := by decide +kernel
theorem dX7_init_85 : decode cX7_init 85 = .ok (.sipush 160, 3) := by decide +kernel
theorem dX7_init_88 : decode cX7_init 88 = .ok (.iastore, 1) := by decide +kernel
theorem dX7_init_89 : decode cX7_init 89 = .ok (.iinc 3 1, 3) := by decide +kernel
theorem dX7_init_92 : decode cX7_init 92 = .ok (.goto (-27), 3) := by decide +kernel
theorem dX7_init_95 : decode cX7_init 95 = .ok (.return_, 1) := by decide +kernel
theorem dX7_thrown_0 : decode cX7_thrown 0 = .ok (.aload_n 0, 1) := by decide +kernel
theorem dX7_thrown_1 : decode cX7_thrown 1 = .ok (.getfield 31, 3) := by decide +kernel
theorem dX7_thrown_4 : decode cX7_thrown 4 = .ok (.ireturn, 1) := by decide +kernel
theorem dX7_refuse_0 : decode cX7_refuse 0 = .ok (.aload_n 0, 1) := by decide +kernel
theorem dX7_refuse_1 : decode cX7_refuse 1 = .ok (.iload_n 1, 1) := by decide +kernel
theorem dX7_refuse_2 : decode cX7_refuse 2 = .ok (.putfield 31, 3) := by decide +kernel
theorem dX7_refuse_5 : decode cX7_refuse 5 = .ok (.iconst 0, 1) := by decide +kernel
theorem dX7_refuse_6 : decode cX7_refuse 6 = .ok (.ireturn, 1) := by decide +kernel
theorem dX7_is_0 : decode cX7_is 0 = .ok (.iload_n 0, 1) := by decide +kernel
theorem dX7_is_1 : decode cX7_is 1 = .ok (.iload_n 1, 1) := by decide +kernel
theorem dX7_is_2 : decode cX7_is 2 = .ok (.if_icmp .lt 12, 3) := by decide +kernel
theorem dX7_is_5 : decode cX7_is 5 = .ok (.iload_n 0, 1) := by decide +kernel
theorem dX7_is_6 : decode cX7_is 6 = .ok (.iload_n 2, 1) := by decide +kernel
theorem dX7_is_7 : decode cX7_is 7 = .ok (.if_icmp .gt 7, 3) := by decide +kernel
theorem dX7_is_10 : decode cX7_is 10 = .ok (.iconst 1, 1) := by decide +kernel
theorem dX7_is_11 : decode cX7_is 11 = .ok (.goto 4, 3) := by decide +kernel
theorem dX7_is_14 : decode cX7_is 14 = .ok (.iconst 0, 1) := by decide +kernel
theorem dX7_is_15 : decode cX7_is 15 = .ok (.ireturn, 1) := by decide +kernel
theorem dX7_bears_0 : decode cX7_bears 0 = .ok (.iload_n 2, 1) := by decide +kernel
theorem dX7_bears_1 : decode cX7_bears 1 = .ok (.iconst 4, 1) := by decide +kernel
theorem dX7_bears_2 : decode cX7_bears 2 = .ok (.if_icmp .ge 11, 3) := by decide +kernel
theorem dX7_bears_5 : decode cX7_bears 5 = .ok (.aload_n 0, 1) := by decide +kernel
theorem dX7_bears_6 : decode cX7_bears 6 = .ok (.iload_n 2, 1) := by decide +kernel
theorem dX7_bears_7 : decode cX7_bears 7 = .ok (.iconst 1, 1) := by decide +kernel
theorem dX7_bears_8 : decode cX7_bears 8 = .ok (.isub, 1) := by decide +kernel
theorem dX7_bears_9 : decode cX7_bears 9 = .ok (.iaload, 1) := by decide +kernel
theorem dX7_bears_10 : decode cX7_bears 10 = .ok (.goto 8, 3) := by decide +kernel
theorem dX7_bears_13 : decode cX7_bears 13 = .ok (.iload_n 1, 1) := by decide +kernel
theorem dX7_bears_14 : decode cX7_bears 14 = .ok (.aload_n 0, 1) := by decide +kernel
theorem dX7_bears_15 : decode cX7_bears 15 = .ok (.iconst 4, 1) := by decide +kernel
theorem dX7_bears_16 : decode cX7_bears 16 = .ok (.iaload, 1) := by decide +kernel
theorem dX7_bears_17 : decode cX7_bears 17 = .ok (.isub, 1) := by decide +kernel
theorem dX7_bears_18 : decode cX7_bears 18 = .ok (.istore_n 3, 1) := by decide +kernel
theorem dX7_bears_19 : decode cX7_bears 19 = .ok (.iload_n 2, 1) := by decide +kernel
theorem dX7_bears_20 : decode cX7_bears 20 = .ok (.tableswitch 149 1 3 #[28, 65, 101], 28) := by decide +kernel
theorem dX7_bears_48 : decode cX7_bears 48 = .ok (.iload_n 3, 1) := by decide +kernel
theorem dX7_bears_49 : decode cX7_bears 49 = .ok (.bipush 60, 2) := by decide +kernel
theorem dX7_bears_51 : decode cX7_bears 51 = .ok (.if_icmp .ge 9, 3) := by decide +kernel
theorem dX7_bears_54 : decode cX7_bears 54 = .ok (.sipush 160, 3) := by decide +kernel
theorem dX7_bears_57 : decode cX7_bears 57 = .ok (.goto 27, 3) := by decide +kernel
theorem dX7_bears_60 : decode cX7_bears 60 = .ok (.iload_n 3, 1) := by decide +kernel
theorem dX7_bears_61 : decode cX7_bears 61 = .ok (.bipush 80, 2) := by decide +kernel
theorem dX7_bears_63 : decode cX7_bears 63 = .ok (.if_icmp .ge 8, 3) := by decide +kernel
theorem dX7_bears_66 : decode cX7_bears 66 = .ok (.bipush 100, 2) := by decide +kernel
theorem dX7_bears_68 : decode cX7_bears 68 = .ok (.goto 16, 3) := by decide +kernel
theorem dX7_bears_71 : decode cX7_bears 71 = .ok (.iload_n 3, 1) := by decide +kernel
theorem dX7_bears_72 : decode cX7_bears 72 = .ok (.bipush 100, 2) := by decide +kernel
theorem dX7_bears_74 : decode cX7_bears 74 = .ok (.if_icmp .ge 8, 3) := by decide +kernel
theorem dX7_bears_77 : decode cX7_bears 77 = .ok (.bipush 60, 2) := by decide +kernel
theorem dX7_bears_79 : decode cX7_bears 79 = .ok (.goto 5, 3) := by decide +kernel
theorem dX7_bears_82 : decode cX7_bears 82 = .ok (.bipush 20, 2) := by decide +kernel
theorem dX7_bears_84 : decode cX7_bears 84 = .ok (.ireturn, 1) := by decide +kernel
theorem dX7_bears_85 : decode cX7_bears 85 = .ok (.iload_n 3, 1) := by decide +kernel
theorem dX7_bears_86 : decode cX7_bears 86 = .ok (.bipush 10, 2) := by decide +kernel
theorem dX7_bears_88 : decode cX7_bears 88 = .ok (.if_icmp .ge 9, 3) := by decide +kernel
theorem dX7_bears_91 : decode cX7_bears 91 = .ok (.sipush 160, 3) := by decide +kernel
theorem dX7_bears_94 : decode cX7_bears 94 = .ok (.goto 26, 3) := by decide +kernel
theorem dX7_bears_97 : decode cX7_bears 97 = .ok (.iload_n 3, 1) := by decide +kernel
theorem dX7_bears_98 : decode cX7_bears 98 = .ok (.bipush 20, 2) := by decide +kernel
theorem dX7_bears_100 : decode cX7_bears 100 = .ok (.if_icmp .ge 8, 3) := by decide +kernel
theorem dX7_bears_103 : decode cX7_bears 103 = .ok (.bipush 80, 2) := by decide +kernel
theorem dX7_bears_105 : decode cX7_bears 105 = .ok (.goto 15, 3) := by decide +kernel
theorem dX7_bears_108 : decode cX7_bears 108 = .ok (.iload_n 3, 1) := by decide +kernel
theorem dX7_bears_109 : decode cX7_bears 109 = .ok (.bipush 40, 2) := by decide +kernel
theorem dX7_bears_111 : decode cX7_bears 111 = .ok (.if_icmp .ge 8, 3) := by decide +kernel
theorem dX7_bears_114 : decode cX7_bears 114 = .ok (.bipush 40, 2) := by decide +kernel
theorem dX7_bears_116 : decode cX7_bears 116 = .ok (.goto 4, 3) := by decide +kernel
theorem dX7_bears_119 : decode cX7_bears 119 = .ok (.iconst 0, 1) := by decide +kernel
theorem dX7_bears_120 : decode cX7_bears 120 = .ok (.ireturn, 1) := by decide +kernel
theorem dX7_bears_121 : decode cX7_bears 121 = .ok (.iload_n 3, 1) := by decide +kernel
theorem dX7_bears_122 : decode cX7_bears 122 = .ok (.bipush 20, 2) := by decide +kernel
theorem dX7_bears_124 : decode cX7_bears 124 = .ok (.if_icmp .ge 9, 3) := by decide +kernel
theorem dX7_bears_127 : decode cX7_bears 127 = .ok (.sipush 160, 3) := by decide +kernel
theorem dX7_bears_130 : decode cX7_bears 130 = .ok (.goto 38, 3) := by decide +kernel
theorem dX7_bears_133 : decode cX7_bears 133 = .ok (.iload_n 3, 1) := by decide +kernel
theorem dX7_bears_134 : decode cX7_bears 134 = .ok (.bipush 30, 2) := by decide +kernel
theorem dX7_bears_136 : decode cX7_bears 136 = .ok (.if_icmp .ge 8, 3) := by decide +kernel
theorem dX7_bears_139 : decode cX7_bears 139 = .ok (.bipush 120, 2) := by decide +kernel
theorem dX7_bears_141 : decode cX7_bears 141 = .ok (.goto 27, 3) := by decide +kernel
theorem dX7_bears_144 : decode cX7_bears 144 = .ok (.iload_n 3, 1) := by decide +kernel
theorem dX7_bears_145 : decode cX7_bears 145 = .ok (.bipush 40, 2) := by decide +kernel
theorem dX7_bears_147 : decode cX7_bears 147 = .ok (.if_icmp .ge 8, 3) := by decide +kernel
theorem dX7_bears_150 : decode cX7_bears 150 = .ok (.bipush 80, 2) := by decide +kernel
theorem dX7_bears_152 : decode cX7_bears 152 = .ok (.goto 16, 3) := by decide +kernel
theorem dX7_bears_155 : decode cX7_bears 155 = .ok (.iload_n 3, 1) := by decide +kernel
theorem dX7_bears_156 : decode cX7_bears 156 = .ok (.bipush 50, 2) := by decide +kernel
theorem dX7_bears_158 : decode cX7_bears 158 = .ok (.if_icmp .ge 8, 3) := by decide +kernel
theorem dX7_bears_161 : decode cX7_bears 161 = .ok (.bipush 40, 2) := by decide +kernel
theorem dX7_bears_163 : decode cX7_bears 163 = .ok (.goto 5, 3) := by decide +kernel
theorem dX7_bears_166 : decode cX7_bears 166 = .ok (.bipush 10, 2) := by decide +kernel
theorem dX7_bears_168 : decode cX7_bears 168 = .ok (.ireturn, 1) := by decide +kernel
theorem dX7_bears_169 : decode cX7_bears 169 = .ok (.iload_n 3, 1) := by decide +kernel
theorem dX7_bears_170 : decode cX7_bears 170 = .ok (.bipush 30, 2) := by decide +kernel
theorem dX7_bears_172 : decode cX7_bears 172 = .ok (.if_icmp .le 8, 3) := by decide +kernel
theorem dX7_bears_175 : decode cX7_bears 175 = .ok (.bipush 40, 2) := by decide +kernel
theorem dX7_bears_177 : decode cX7_bears 177 = .ok (.goto 28, 3) := by decide +kernel
theorem dX7_bears_180 : decode cX7_bears 180 = .ok (.iload_n 3, 1) := by decide +kernel
theorem dX7_bears_181 : decode cX7_bears 181 = .ok (.bipush 20, 2) := by decide +kernel
theorem dX7_bears_183 : decode cX7_bears 183 = .ok (.if_icmp .le 8, 3) := by decide +kernel
theorem dX7_bears_186 : decode cX7_bears 186 = .ok (.bipush 80, 2) := by decide +kernel
theorem dX7_bears_188 : decode cX7_bears 188 = .ok (.goto 17, 3) := by decide +kernel
theorem dX7_bears_191 : decode cX7_bears 191 = .ok (.iload_n 3, 1) := by decide +kernel
theorem dX7_bears_192 : decode cX7_bears 192 = .ok (.bipush (-40), 2) := by decide +kernel
theorem dX7_bears_194 : decode cX7_bears 194 = .ok (.if_icmp .ge 8, 3) := by decide +kernel
theorem dX7_bears_197 : decode cX7_bears 197 = .ok (.bipush 100, 2) := by decide +kernel
theorem dX7_bears_199 : decode cX7_bears 199 = .ok (.goto 6, 3) := by decide +kernel
theorem dX7_bears_202 : decode cX7_bears 202 = .ok (.sipush 160, 3) := by decide +kernel
theorem dX7_bears_205 : decode cX7_bears 205 = .ok (.ireturn, 1) := by decide +kernel
theorem dX7_speedOf_0 : decode cX7_speedOf 0 = .ok (.sipush 160, 3) := by decide +kernel
theorem dX7_speedOf_3 : decode cX7_speedOf 3 = .ok (.istore_n 2, 1) := by decide +kernel
theorem dX7_speedOf_4 : decode cX7_speedOf 4 = .ok (.iconst 1, 1) := by decide +kernel
theorem dX7_speedOf_5 : decode cX7_speedOf 5 = .ok (.istore_n 3, 1) := by decide +kernel
theorem dX7_speedOf_6 : decode cX7_speedOf 6 = .ok (.iload_n 3, 1) := by decide +kernel
theorem dX7_speedOf_7 : decode cX7_speedOf 7 = .ok (.iconst 5, 1) := by decide +kernel
theorem dX7_speedOf_8 : decode cX7_speedOf 8 = .ok (.if_icmp .ge 20, 3) := by decide +kernel
theorem dX7_speedOf_11 : decode cX7_speedOf 11 = .ok (.iload_n 2, 1) := by decide +kernel
theorem dX7_speedOf_12 : decode cX7_speedOf 12 = .ok (.aload_n 0, 1) := by decide +kernel
theorem dX7_speedOf_13 : decode cX7_speedOf 13 = .ok (.iload_n 1, 1) := by decide +kernel
theorem dX7_speedOf_14 : decode cX7_speedOf 14 = .ok (.iload_n 3, 1) := by decide +kernel
theorem dX7_speedOf_15 : decode cX7_speedOf 15 = .ok (.invokestatic 34, 3) := by decide +kernel
theorem dX7_speedOf_18 : decode cX7_speedOf 18 = .ok (.invokestatic 38, 3) := by decide +kernel
theorem dX7_speedOf_21 : decode cX7_speedOf 21 = .ok (.istore_n 2, 1) := by decide +kernel
theorem dX7_speedOf_22 : decode cX7_speedOf 22 = .ok (.iinc 3 1, 3) := by decide +kernel
theorem dX7_speedOf_25 : decode cX7_speedOf 25 = .ok (.goto (-19), 3) := by decide +kernel
theorem dX7_speedOf_28 : decode cX7_speedOf 28 = .ok (.iload_n 2, 1) := by decide +kernel
theorem dX7_speedOf_29 : decode cX7_speedOf 29 = .ok (.ireturn, 1) := by decide +kernel
theorem dX7_whyOf_0 : decode cX7_whyOf 0 = .ok (.aload_n 0, 1) := by decide +kernel
theorem dX7_whyOf_1 : decode cX7_whyOf 1 = .ok (.iload_n 1, 1) := by decide +kernel
theorem dX7_whyOf_2 : decode cX7_whyOf 2 = .ok (.invokestatic 44, 3) := by decide +kernel
theorem dX7_whyOf_5 : decode cX7_whyOf 5 = .ok (.istore_n 2, 1) := by decide +kernel
theorem dX7_whyOf_6 : decode cX7_whyOf 6 = .ok (.iload_n 2, 1) := by decide +kernel
theorem dX7_whyOf_7 : decode cX7_whyOf 7 = .ok (.sipush 160, 3) := by decide +kernel
theorem dX7_whyOf_10 : decode cX7_whyOf 10 = .ok (.if_icmp .ne 5, 3) := by decide +kernel
theorem dX7_whyOf_13 : decode cX7_whyOf 13 = .ok (.iconst 0, 1) := by decide +kernel
theorem dX7_whyOf_14 : decode cX7_whyOf 14 = .ok (.ireturn, 1) := by decide +kernel
theorem dX7_whyOf_15 : decode cX7_whyOf 15 = .ok (.iconst 1, 1) := by decide +kernel
theorem dX7_whyOf_16 : decode cX7_whyOf 16 = .ok (.istore_n 3, 1) := by decide +kernel
theorem dX7_whyOf_17 : decode cX7_whyOf 17 = .ok (.aload_n 0, 1) := by decide +kernel
theorem dX7_whyOf_18 : decode cX7_whyOf 18 = .ok (.iload_n 1, 1) := by decide +kernel
theorem dX7_whyOf_19 : decode cX7_whyOf 19 = .ok (.iload_n 3, 1) := by decide +kernel
theorem dX7_whyOf_20 : decode cX7_whyOf 20 = .ok (.invokestatic 34, 3) := by decide +kernel
theorem dX7_whyOf_23 : decode cX7_whyOf 23 = .ok (.iload_n 2, 1) := by decide +kernel
theorem dX7_whyOf_24 : decode cX7_whyOf 24 = .ok (.if_icmp .eq 9, 3) := by decide +kernel
theorem dX7_whyOf_27 : decode cX7_whyOf 27 = .ok (.iinc 3 1, 3) := by decide +kernel
theorem dX7_whyOf_30 : decode cX7_whyOf 30 = .ok (.goto (-13), 3) := by decide +kernel
theorem dX7_whyOf_33 : decode cX7_whyOf 33 = .ok (.iload_n 3, 1) := by decide +kernel
theorem dX7_whyOf_34 : decode cX7_whyOf 34 = .ok (.ireturn, 1) := by decide +kernel
theorem dX7_knownOf_0 : decode cX7_knownOf 0 = .ok (.bipush 7, 2) := by decide +kernel
theorem dX7_knownOf_2 : decode cX7_knownOf 2 = .ok (.newarray .int, 2) := by decide +kernel
theorem dX7_knownOf_4 : decode cX7_knownOf 4 = .ok (.astore_n 2, 1) := by decide +kernel
theorem dX7_knownOf_5 : decode cX7_knownOf 5 = .ok (.aload_n 2, 1) := by decide +kernel
theorem dX7_knownOf_6 : decode cX7_knownOf 6 = .ok (.iconst 4, 1) := by decide +kernel
theorem dX7_knownOf_7 : decode cX7_knownOf 7 = .ok (.aload_n 0, 1) := by decide +kernel
theorem dX7_knownOf_8 : decode cX7_knownOf 8 = .ok (.getfield 11, 3) := by decide +kernel
theorem dX7_knownOf_11 : decode cX7_knownOf 11 = .ok (.iload_n 1, 1) := by decide +kernel
theorem dX7_knownOf_12 : decode cX7_knownOf 12 = .ok (.aaload, 1) := by decide +kernel
theorem dX7_knownOf_13 : decode cX7_knownOf 13 = .ok (.iconst 4, 1) := by decide +kernel
theorem dX7_knownOf_14 : decode cX7_knownOf 14 = .ok (.iaload, 1) := by decide +kernel
theorem dX7_knownOf_15 : decode cX7_knownOf 15 = .ok (.iastore, 1) := by decide +kernel
theorem dX7_knownOf_16 : decode cX7_knownOf 16 = .ok (.aload_n 0, 1) := by decide +kernel
theorem dX7_knownOf_17 : decode cX7_knownOf 17 = .ok (.iload_n 1, 1) := by decide +kernel
theorem dX7_knownOf_18 : decode cX7_knownOf 18 = .ok (.invokevirtual 48, 3) := by decide +kernel
theorem dX7_knownOf_21 : decode cX7_knownOf 21 = .ok (.istore_n 3, 1) := by decide +kernel
theorem dX7_knownOf_22 : decode cX7_knownOf 22 = .ok (.iload_n 3, 1) := by decide +kernel
theorem dX7_knownOf_23 : decode cX7_knownOf 23 = .ok (.iconst (-1), 1) := by decide +kernel
theorem dX7_knownOf_24 : decode cX7_knownOf 24 = .ok (.if_icmp .ne 5, 3) := by decide +kernel
theorem dX7_knownOf_27 : decode cX7_knownOf 27 = .ok (.aload_n 2, 1) := by decide +kernel
theorem dX7_knownOf_28 : decode cX7_knownOf 28 = .ok (.areturn, 1) := by decide +kernel
theorem dX7_knownOf_29 : decode cX7_knownOf 29 = .ok (.aload_n 0, 1) := by decide +kernel
theorem dX7_knownOf_30 : decode cX7_knownOf 30 = .ok (.getfield 24, 3) := by decide +kernel
theorem dX7_knownOf_33 : decode cX7_knownOf 33 = .ok (.iload_n 3, 1) := by decide +kernel
theorem dX7_knownOf_34 : decode cX7_knownOf 34 = .ok (.invokevirtual 52, 3) := by decide +kernel
theorem dX7_knownOf_37 : decode cX7_knownOf 37 = .ok (.checkcast 56, 3) := by decide +kernel
theorem dX7_knownOf_40 : decode cX7_knownOf 40 = .ok (.astore 4, 2) := by decide +kernel
theorem dX7_knownOf_42 : decode cX7_knownOf 42 = .ok (.iconst 5, 1) := by decide +kernel
theorem dX7_knownOf_43 : decode cX7_knownOf 43 = .ok (.iconst 4, 1) := by decide +kernel
theorem dX7_knownOf_44 : decode cX7_knownOf 44 = .ok (.iload_n 1, 1) := by decide +kernel
theorem dX7_knownOf_45 : decode cX7_knownOf 45 = .ok (.bipush 10, 2) := by decide +kernel
theorem dX7_knownOf_47 : decode cX7_knownOf 47 = .ok (.irem, 1) := by decide +kernel
theorem dX7_knownOf_48 : decode cX7_knownOf 48 = .ok (.aload 4, 2) := by decide +kernel
theorem dX7_knownOf_50 : decode cX7_knownOf 50 = .ok (.iconst 4, 1) := by decide +kernel
theorem dX7_knownOf_51 : decode cX7_knownOf 51 = .ok (.iaload, 1) := by decide +kernel
theorem dX7_knownOf_52 : decode cX7_knownOf 52 = .ok (.iconst 1, 1) := by decide +kernel
theorem dX7_knownOf_53 : decode cX7_knownOf 53 = .ok (.if_icmp .ne 10, 3) := by decide +kernel
theorem dX7_knownOf_56 : decode cX7_knownOf 56 = .ok (.aload 4, 2) := by decide +kernel
theorem dX7_knownOf_58 : decode cX7_knownOf 58 = .ok (.iconst 3, 1) := by decide +kernel
theorem dX7_knownOf_59 : decode cX7_knownOf 59 = .ok (.iaload, 1) := by decide +kernel
theorem dX7_knownOf_60 : decode cX7_knownOf 60 = .ok (.goto 4, 3) := by decide +kernel
theorem dX7_knownOf_63 : decode cX7_knownOf 63 = .ok (.iconst 0, 1) := by decide +kernel
theorem dX7_knownOf_64 : decode cX7_knownOf 64 = .ok (.isub, 1) := by decide +kernel
theorem dX7_knownOf_65 : decode cX7_knownOf 65 = .ok (.imul, 1) := by decide +kernel
theorem dX7_knownOf_66 : decode cX7_knownOf 66 = .ok (.iadd, 1) := by decide +kernel
theorem dX7_knownOf_67 : decode cX7_knownOf 67 = .ok (.istore 5, 2) := by decide +kernel
theorem dX7_knownOf_69 : decode cX7_knownOf 69 = .ok (.aload 4, 2) := by decide +kernel
theorem dX7_knownOf_71 : decode cX7_knownOf 71 = .ok (.iload 5, 2) := by decide +kernel
theorem dX7_knownOf_73 : decode cX7_knownOf 73 = .ok (.iconst 1, 1) := by decide +kernel
theorem dX7_knownOf_74 : decode cX7_knownOf 74 = .ok (.iadd, 1) := by decide +kernel
theorem dX7_knownOf_75 : decode cX7_knownOf 75 = .ok (.aload_n 2, 1) := by decide +kernel
theorem dX7_knownOf_76 : decode cX7_knownOf 76 = .ok (.iconst 0, 1) := by decide +kernel
theorem dX7_knownOf_77 : decode cX7_knownOf 77 = .ok (.iconst 3, 1) := by decide +kernel
theorem dX7_knownOf_78 : decode cX7_knownOf 78 = .ok (.invokestatic 58, 3) := by decide +kernel
theorem dX7_knownOf_81 : decode cX7_knownOf 81 = .ok (.aload_n 2, 1) := by decide +kernel
theorem dX7_knownOf_82 : decode cX7_knownOf 82 = .ok (.areturn, 1) := by decide +kernel
theorem dX7_knownBy_0 : decode cX7_knownBy 0 = .ok (.aload_n 0, 1) := by decide +kernel
theorem dX7_knownBy_1 : decode cX7_knownBy 1 = .ok (.getfield 24, 3) := by decide +kernel
theorem dX7_knownBy_4 : decode cX7_knownBy 4 = .ok (.invokevirtual 64, 3) := by decide +kernel
theorem dX7_knownBy_7 : decode cX7_knownBy 7 = .ok (.iconst 1, 1) := by decide +kernel
theorem dX7_knownBy_8 : decode cX7_knownBy 8 = .ok (.isub, 1) := by decide +kernel
theorem dX7_knownBy_9 : decode cX7_knownBy 9 = .ok (.istore_n 2, 1) := by decide +kernel
theorem dX7_knownBy_10 : decode cX7_knownBy 10 = .ok (.iload_n 2, 1) := by decide +kernel
theorem dX7_knownBy_11 : decode cX7_knownBy 11 = .ok (.ifCond .lt 77, 3) := by decide +kernel
theorem dX7_knownBy_14 : decode cX7_knownBy 14 = .ok (.aload_n 0, 1) := by decide +kernel
theorem dX7_knownBy_15 : decode cX7_knownBy 15 = .ok (.getfield 24, 3) := by decide +kernel
theorem dX7_knownBy_18 : decode cX7_knownBy 18 = .ok (.iload_n 2, 1) := by decide +kernel
theorem dX7_knownBy_19 : decode cX7_knownBy 19 = .ok (.invokevirtual 52, 3) := by decide +kernel
theorem dX7_knownBy_22 : decode cX7_knownBy 22 = .ok (.checkcast 56, 3) := by decide +kernel
theorem dX7_knownBy_25 : decode cX7_knownBy 25 = .ok (.astore_n 3, 1) := by decide +kernel
theorem dX7_knownBy_26 : decode cX7_knownBy 26 = .ok (.iload_n 1, 1) := by decide +kernel
theorem dX7_knownBy_27 : decode cX7_knownBy 27 = .ok (.bipush 10, 2) := by decide +kernel
theorem dX7_knownBy_29 : decode cX7_knownBy 29 = .ok (.irem, 1) := by decide +kernel
theorem dX7_knownBy_30 : decode cX7_knownBy 30 = .ok (.aload_n 3, 1) := by decide +kernel
theorem dX7_knownBy_31 : decode cX7_knownBy 31 = .ok (.iconst 4, 1) := by decide +kernel
theorem dX7_knownBy_32 : decode cX7_knownBy 32 = .ok (.iaload, 1) := by decide +kernel
theorem dX7_knownBy_33 : decode cX7_knownBy 33 = .ok (.iconst 1, 1) := by decide +kernel
theorem dX7_knownBy_34 : decode cX7_knownBy 34 = .ok (.if_icmp .ne 9, 3) := by decide +kernel
theorem dX7_knownBy_37 : decode cX7_knownBy 37 = .ok (.aload_n 3, 1) := by decide +kernel
theorem dX7_knownBy_38 : decode cX7_knownBy 38 = .ok (.iconst 3, 1) := by decide +kernel
theorem dX7_knownBy_39 : decode cX7_knownBy 39 = .ok (.iaload, 1) := by decide +kernel
theorem dX7_knownBy_40 : decode cX7_knownBy 40 = .ok (.goto 4, 3) := by decide +kernel
theorem dX7_knownBy_43 : decode cX7_knownBy 43 = .ok (.iconst 0, 1) := by decide +kernel
theorem dX7_knownBy_44 : decode cX7_knownBy 44 = .ok (.isub, 1) := by decide +kernel
theorem dX7_knownBy_45 : decode cX7_knownBy 45 = .ok (.istore 4, 2) := by decide +kernel
theorem dX7_knownBy_47 : decode cX7_knownBy 47 = .ok (.aload_n 3, 1) := by decide +kernel
theorem dX7_knownBy_48 : decode cX7_knownBy 48 = .ok (.iconst 0, 1) := by decide +kernel
theorem dX7_knownBy_49 : decode cX7_knownBy 49 = .ok (.iaload, 1) := by decide +kernel
theorem dX7_knownBy_50 : decode cX7_knownBy 50 = .ok (.iload_n 1, 1) := by decide +kernel
theorem dX7_knownBy_51 : decode cX7_knownBy 51 = .ok (.bipush 10, 2) := by decide +kernel
theorem dX7_knownBy_53 : decode cX7_knownBy 53 = .ok (.idiv, 1) := by decide +kernel
theorem dX7_knownBy_54 : decode cX7_knownBy 54 = .ok (.if_icmp .ne 28, 3) := by decide +kernel
theorem dX7_knownBy_57 : decode cX7_knownBy 57 = .ok (.iload 4, 2) := by decide +kernel
theorem dX7_knownBy_59 : decode cX7_knownBy 59 = .ok (.iconst 0, 1) := by decide +kernel
theorem dX7_knownBy_60 : decode cX7_knownBy 60 = .ok (.bipush 9, 2) := by decide +kernel
theorem dX7_knownBy_62 : decode cX7_knownBy 62 = .ok (.invokestatic 68, 3) := by decide +kernel
theorem dX7_knownBy_65 : decode cX7_knownBy 65 = .ok (.ifCond .eq 17, 3) := by decide +kernel
theorem dX7_knownBy_68 : decode cX7_knownBy 68 = .ok (.aload_n 3, 1) := by decide +kernel
theorem dX7_knownBy_69 : decode cX7_knownBy 69 = .ok (.iconst 5, 1) := by decide +kernel
theorem dX7_knownBy_70 : decode cX7_knownBy 70 = .ok (.iconst 4, 1) := by decide +kernel
theorem dX7_knownBy_71 : decode cX7_knownBy 71 = .ok (.iload 4, 2) := by decide +kernel
theorem dX7_knownBy_73 : decode cX7_knownBy 73 = .ok (.imul, 1) := by decide +kernel
theorem dX7_knownBy_74 : decode cX7_knownBy 74 = .ok (.iadd, 1) := by decide +kernel
theorem dX7_knownBy_75 : decode cX7_knownBy 75 = .ok (.iaload, 1) := by decide +kernel
theorem dX7_knownBy_76 : decode cX7_knownBy 76 = .ok (.iconst 1, 1) := by decide +kernel
theorem dX7_knownBy_77 : decode cX7_knownBy 77 = .ok (.if_icmp .ne 5, 3) := by decide +kernel
theorem dX7_knownBy_80 : decode cX7_knownBy 80 = .ok (.iload_n 2, 1) := by decide +kernel
theorem dX7_knownBy_81 : decode cX7_knownBy 81 = .ok (.ireturn, 1) := by decide +kernel
theorem dX7_knownBy_82 : decode cX7_knownBy 82 = .ok (.iinc 2 (-1), 3) := by decide +kernel
theorem dX7_knownBy_85 : decode cX7_knownBy 85 = .ok (.goto (-75), 3) := by decide +kernel
