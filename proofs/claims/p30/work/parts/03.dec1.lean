theorem dX6_book_59 : decode cX6_book 59 = .ok (.aload_n 0, 1) := by decide +kernel
theorem dX6_book_60 : decode cX6_book 60 = .ok (.getfield 25, 3) := by decide +kernel
theorem dX6_book_63 : decode cX6_book 63 = .ok (.invokevirtual 104, 3) := by decide +kernel
theorem dX6_book_66 : decode cX6_book 66 = .ok (.bipush 16, 2) := by decide +kernel
theorem dX6_book_68 : decode cX6_book 68 = .ok (.if_icmp .lt 13, 3) := by decide +kernel
theorem dX6_book_71 : decode cX6_book 71 = .ok (.new 90, 3) := by decide +kernel
theorem dX6_book_74 : decode cX6_book 74 = .ok (.dup, 1) := by decide +kernel
theorem dX6_book_75 : decode cX6_book 75 = .ok (.ldc 168, 2) := by decide +kernel
theorem dX6_book_77 : decode cX6_book 77 = .ok (.invokespecial 94, 3) := by decide +kernel
theorem dX6_book_80 : decode cX6_book 80 = .ok (.athrow, 1) := by decide +kernel
theorem dX6_book_81 : decode cX6_book 81 = .ok (.aload_n 0, 1) := by decide +kernel
theorem dX6_book_82 : decode cX6_book 82 = .ok (.iload_n 1, 1) := by decide +kernel
theorem dX6_book_83 : decode cX6_book 83 = .ok (.iload_n 2, 1) := by decide +kernel
theorem dX6_book_84 : decode cX6_book 84 = .ok (.iload_n 3, 1) := by decide +kernel
theorem dX6_book_85 : decode cX6_book 85 = .ok (.iload 4, 2) := by decide +kernel
theorem dX6_book_87 : decode cX6_book 87 = .ok (.invokevirtual 170, 3) := by decide +kernel
theorem dX6_book_90 : decode cX6_book 90 = .ok (.ifCond .ne 13, 3) := by decide +kernel
theorem dX6_book_93 : decode cX6_book 93 = .ok (.new 90, 3) := by decide +kernel
theorem dX6_book_96 : decode cX6_book 96 = .ok (.dup, 1) := by decide +kernel
theorem dX6_book_97 : decode cX6_book 97 = .ok (.ldc 174, 2) := by decide +kernel
theorem dX6_book_99 : decode cX6_book 99 = .ok (.invokespecial 94, 3) := by decide +kernel
theorem dX6_book_102 : decode cX6_book 102 = .ok (.athrow, 1) := by decide +kernel
theorem dX6_book_103 : decode cX6_book 103 = .ok (.aload_n 0, 1) := by decide +kernel
theorem dX6_book_104 : decode cX6_book 104 = .ok (.getfield 25, 3) := by decide +kernel
theorem dX6_book_107 : decode cX6_book 107 = .ok (.new 176, 3) := by decide +kernel
theorem dX6_book_110 : decode cX6_book 110 = .ok (.dup, 1) := by decide +kernel
theorem dX6_book_111 : decode cX6_book 111 = .ok (.iload_n 1, 1) := by decide +kernel
theorem dX6_book_112 : decode cX6_book 112 = .ok (.iload_n 2, 1) := by decide +kernel
theorem dX6_book_113 : decode cX6_book 113 = .ok (.iload_n 3, 1) := by decide +kernel
theorem dX6_book_114 : decode cX6_book 114 = .ok (.iload 4, 2) := by decide +kernel
theorem dX6_book_116 : decode cX6_book 116 = .ok (.iload 5, 2) := by decide +kernel
theorem dX6_book_118 : decode cX6_book 118 = .ok (.invokespecial 178, 3) := by decide +kernel
theorem dX6_book_121 : decode cX6_book 121 = .ok (.invokevirtual 121, 3) := by decide +kernel
theorem dX6_book_124 : decode cX6_book 124 = .ok (.pop, 1) := by decide +kernel
theorem dX6_book_125 : decode cX6_book 125 = .ok (.aload_n 0, 1) := by decide +kernel
theorem dX6_book_126 : decode cX6_book 126 = .ok (.getfield 25, 3) := by decide +kernel
theorem dX6_book_129 : decode cX6_book 129 = .ok (.invokevirtual 104, 3) := by decide +kernel
theorem dX6_book_132 : decode cX6_book 132 = .ok (.iconst 1, 1) := by decide +kernel
theorem dX6_book_133 : decode cX6_book 133 = .ok (.isub, 1) := by decide +kernel
theorem dX6_book_134 : decode cX6_book 134 = .ok (.ireturn, 1) := by decide +kernel
theorem dX6_work_0 : decode cX6_work 0 = .ok (.aload_n 0, 1) := by decide +kernel
theorem dX6_work_1 : decode cX6_work 1 = .ok (.iload_n 1, 1) := by decide +kernel
theorem dX6_work_2 : decode cX6_work 2 = .ok (.invokevirtual 181, 3) := by decide +kernel
theorem dX6_work_5 : decode cX6_work 5 = .ok (.astore 4, 2) := by decide +kernel
theorem dX6_work_7 : decode cX6_work 7 = .ok (.aload_n 0, 1) := by decide +kernel
theorem dX6_work_8 : decode cX6_work 8 = .ok (.iload_n 3, 1) := by decide +kernel
theorem dX6_work_9 : decode cX6_work 9 = .ok (.invokevirtual 151, 3) := by decide +kernel
theorem dX6_work_12 : decode cX6_work 12 = .ok (.astore 5, 2) := by decide +kernel
theorem dX6_work_14 : decode cX6_work 14 = .ok (.aload_n 0, 1) := by decide +kernel
theorem dX6_work_15 : decode cX6_work 15 = .ok (.iload_n 2, 1) := by decide +kernel
theorem dX6_work_16 : decode cX6_work 16 = .ok (.invokevirtual 64, 3) := by decide +kernel
theorem dX6_work_19 : decode cX6_work 19 = .ok (.astore 6, 2) := by decide +kernel
theorem dX6_work_21 : decode cX6_work 21 = .ok (.aload 4, 2) := by decide +kernel
theorem dX6_work_23 : decode cX6_work 23 = .ok (.iload_n 2, 1) := by decide +kernel
theorem dX6_work_24 : decode cX6_work 24 = .ok (.invokevirtual 185, 3) := by decide +kernel
theorem dX6_work_27 : decode cX6_work 27 = .ok (.ifCond .ne 13, 3) := by decide +kernel
theorem dX6_work_30 : decode cX6_work 30 = .ok (.new 72, 3) := by decide +kernel
theorem dX6_work_33 : decode cX6_work 33 = .ok (.dup, 1) := by decide +kernel
theorem dX6_work_34 : decode cX6_work 34 = .ok (.ldc 189, 2) := by decide +kernel
theorem dX6_work_36 : decode cX6_work 36 = .ok (.invokespecial 76, 3) := by decide +kernel
theorem dX6_work_39 : decode cX6_work 39 = .ok (.athrow, 1) := by decide +kernel
theorem dX6_work_40 : decode cX6_work 40 = .ok (.aload 4, 2) := by decide +kernel
theorem dX6_work_42 : decode cX6_work 42 = .ok (.getfield 191, 3) := by decide +kernel
theorem dX6_work_45 : decode cX6_work 45 = .ok (.ifCond .eq 13, 3) := by decide +kernel
theorem dX6_work_48 : decode cX6_work 48 = .ok (.new 90, 3) := by decide +kernel
theorem dX6_work_51 : decode cX6_work 51 = .ok (.dup, 1) := by decide +kernel
theorem dX6_work_52 : decode cX6_work 52 = .ok (.ldc 194, 2) := by decide +kernel
theorem dX6_work_54 : decode cX6_work 54 = .ok (.invokespecial 94, 3) := by decide +kernel
theorem dX6_work_57 : decode cX6_work 57 = .ok (.athrow, 1) := by decide +kernel
theorem dX6_work_58 : decode cX6_work 58 = .ok (.aload 4, 2) := by decide +kernel
theorem dX6_work_60 : decode cX6_work 60 = .ok (.getfield 196, 3) := by decide +kernel
theorem dX6_work_63 : decode cX6_work 63 = .ok (.invokevirtual 104, 3) := by decide +kernel
theorem dX6_work_66 : decode cX6_work 66 = .ok (.bipush 6, 2) := by decide +kernel
theorem dX6_work_68 : decode cX6_work 68 = .ok (.if_icmp .lt 13, 3) := by decide +kernel
theorem dX6_work_71 : decode cX6_work 71 = .ok (.new 90, 3) := by decide +kernel
theorem dX6_work_74 : decode cX6_work 74 = .ok (.dup, 1) := by decide +kernel
theorem dX6_work_75 : decode cX6_work 75 = .ok (.ldc 199, 2) := by decide +kernel
theorem dX6_work_77 : decode cX6_work 77 = .ok (.invokespecial 94, 3) := by decide +kernel
theorem dX6_work_80 : decode cX6_work 80 = .ok (.athrow, 1) := by decide +kernel
theorem dX6_work_81 : decode cX6_work 81 = .ok (.aload 6, 2) := by decide +kernel
theorem dX6_work_83 : decode cX6_work 83 = .ok (.aload 5, 2) := by decide +kernel
theorem dX6_work_85 : decode cX6_work 85 = .ok (.getfield 201, 3) := by decide +kernel
theorem dX6_work_88 : decode cX6_work 88 = .ok (.invokevirtual 204, 3) := by decide +kernel
theorem dX6_work_91 : decode cX6_work 91 = .ok (.istore 7, 2) := by decide +kernel
theorem dX6_work_93 : decode cX6_work 93 = .ok (.aload 4, 2) := by decide +kernel
theorem dX6_work_95 : decode cX6_work 95 = .ok (.invokevirtual 208, 3) := by decide +kernel
theorem dX6_work_98 : decode cX6_work 98 = .ok (.iload 7, 2) := by decide +kernel
theorem dX6_work_100 : decode cX6_work 100 = .ok (.iadd, 1) := by decide +kernel
theorem dX6_work_101 : decode cX6_work 101 = .ok (.aload 4, 2) := by decide +kernel
theorem dX6_work_103 : decode cX6_work 103 = .ok (.getfield 211, 3) := by decide +kernel
theorem dX6_work_106 : decode cX6_work 106 = .ok (.if_icmp .le 13, 3) := by decide +kernel
theorem dX6_work_109 : decode cX6_work 109 = .ok (.new 90, 3) := by decide +kernel
theorem dX6_work_112 : decode cX6_work 112 = .ok (.dup, 1) := by decide +kernel
theorem dX6_work_113 : decode cX6_work 113 = .ok (.ldc 214, 2) := by decide +kernel
theorem dX6_work_115 : decode cX6_work 115 = .ok (.invokespecial 94, 3) := by decide +kernel
theorem dX6_work_118 : decode cX6_work 118 = .ok (.athrow, 1) := by decide +kernel
theorem dX6_work_119 : decode cX6_work 119 = .ok (.aload_n 0, 1) := by decide +kernel
theorem dX6_work_120 : decode cX6_work 120 = .ok (.aload 5, 2) := by decide +kernel
theorem dX6_work_122 : decode cX6_work 122 = .ok (.aload 4, 2) := by decide +kernel
theorem dX6_work_124 : decode cX6_work 124 = .ok (.invokevirtual 216, 3) := by decide +kernel
theorem dX6_work_127 : decode cX6_work 127 = .ok (.ifCond .eq 13, 3) := by decide +kernel
theorem dX6_work_130 : decode cX6_work 130 = .ok (.new 90, 3) := by decide +kernel
theorem dX6_work_133 : decode cX6_work 133 = .ok (.dup, 1) := by decide +kernel
theorem dX6_work_134 : decode cX6_work 134 = .ok (.ldc 220, 2) := by decide +kernel
theorem dX6_work_136 : decode cX6_work 136 = .ok (.invokespecial 94, 3) := by decide +kernel
theorem dX6_work_139 : decode cX6_work 139 = .ok (.athrow, 1) := by decide +kernel
theorem dX6_work_140 : decode cX6_work 140 = .ok (.aload 4, 2) := by decide +kernel
theorem dX6_work_142 : decode cX6_work 142 = .ok (.getfield 196, 3) := by decide +kernel
theorem dX6_work_145 : decode cX6_work 145 = .ok (.new 222, 3) := by decide +kernel
theorem dX6_work_148 : decode cX6_work 148 = .ok (.dup, 1) := by decide +kernel
theorem dX6_work_149 : decode cX6_work 149 = .ok (.aload 6, 2) := by decide +kernel
theorem dX6_work_151 : decode cX6_work 151 = .ok (.aload 5, 2) := by decide +kernel
theorem dX6_work_153 : decode cX6_work 153 = .ok (.iload 7, 2) := by decide +kernel
theorem dX6_work_155 : decode cX6_work 155 = .ok (.invokespecial 224, 3) := by decide +kernel
theorem dX6_work_158 : decode cX6_work 158 = .ok (.invokevirtual 121, 3) := by decide +kernel
theorem dX6_work_161 : decode cX6_work 161 = .ok (.pop, 1) := by decide +kernel
theorem dX6_work_162 : decode cX6_work 162 = .ok (.aload 4, 2) := by decide +kernel
theorem dX6_work_164 : decode cX6_work 164 = .ok (.invokevirtual 208, 3) := by decide +kernel
theorem dX6_work_167 : decode cX6_work 167 = .ok (.ireturn, 1) := by decide +kernel
theorem dX6_cancel_0 : decode cX6_cancel 0 = .ok (.aload_n 0, 1) := by decide +kernel
theorem dX6_cancel_1 : decode cX6_cancel 1 = .ok (.iload_n 1, 1) := by decide +kernel
theorem dX6_cancel_2 : decode cX6_cancel 2 = .ok (.invokevirtual 181, 3) := by decide +kernel
theorem dX6_cancel_5 : decode cX6_cancel 5 = .ok (.astore_n 2, 1) := by decide +kernel
theorem dX6_cancel_6 : decode cX6_cancel 6 = .ok (.aload_n 2, 1) := by decide +kernel
theorem dX6_cancel_7 : decode cX6_cancel 7 = .ok (.getfield 191, 3) := by decide +kernel
theorem dX6_cancel_10 : decode cX6_cancel 10 = .ok (.ifCond .eq 13, 3) := by decide +kernel
theorem dX6_cancel_13 : decode cX6_cancel 13 = .ok (.new 90, 3) := by decide +kernel
theorem dX6_cancel_16 : decode cX6_cancel 16 = .ok (.dup, 1) := by decide +kernel
theorem dX6_cancel_17 : decode cX6_cancel 17 = .ok (.ldc 194, 2) := by decide +kernel
theorem dX6_cancel_19 : decode cX6_cancel 19 = .ok (.invokespecial 94, 3) := by decide +kernel
theorem dX6_cancel_22 : decode cX6_cancel 22 = .ok (.athrow, 1) := by decide +kernel
theorem dX6_cancel_23 : decode cX6_cancel 23 = .ok (.aload_n 2, 1) := by decide +kernel
theorem dX6_cancel_24 : decode cX6_cancel 24 = .ok (.getfield 227, 3) := by decide +kernel
theorem dX6_cancel_27 : decode cX6_cancel 27 = .ok (.aload_n 0, 1) := by decide +kernel
theorem dX6_cancel_28 : decode cX6_cancel 28 = .ok (.getfield 42, 3) := by decide +kernel
theorem dX6_cancel_31 : decode cX6_cancel 31 = .ok (.iconst 5, 1) := by decide +kernel
theorem dX6_cancel_32 : decode cX6_cancel 32 = .ok (.iadd, 1) := by decide +kernel
theorem dX6_cancel_33 : decode cX6_cancel 33 = .ok (.if_icmp .ge 13, 3) := by decide +kernel
theorem dX6_cancel_36 : decode cX6_cancel 36 = .ok (.bipush 10, 2) := by decide +kernel
theorem dX6_cancel_38 : decode cX6_cancel 38 = .ok (.aload_n 2, 1) := by decide +kernel
theorem dX6_cancel_39 : decode cX6_cancel 39 = .ok (.getfield 211, 3) := by decide +kernel
theorem dX6_cancel_42 : decode cX6_cancel 42 = .ok (.imul, 1) := by decide +kernel
theorem dX6_cancel_43 : decode cX6_cancel 43 = .ok (.goto 4, 3) := by decide +kernel
theorem dX6_cancel_46 : decode cX6_cancel 46 = .ok (.iconst 0, 1) := by decide +kernel
theorem dX6_cancel_47 : decode cX6_cancel 47 = .ok (.istore_n 3, 1) := by decide +kernel
theorem dX6_cancel_48 : decode cX6_cancel 48 = .ok (.aload_n 2, 1) := by decide +kernel
theorem dX6_cancel_49 : decode cX6_cancel 49 = .ok (.iconst 4, 1) := by decide +kernel
theorem dX6_cancel_50 : decode cX6_cancel 50 = .ok (.putfield 191, 3) := by decide +kernel
theorem dX6_cancel_53 : decode cX6_cancel 53 = .ok (.aload_n 0, 1) := by decide +kernel
theorem dX6_cancel_54 : decode cX6_cancel 54 = .ok (.dup, 1) := by decide +kernel
theorem dX6_cancel_55 : decode cX6_cancel 55 = .ok (.getfield 49, 3) := by decide +kernel
theorem dX6_cancel_58 : decode cX6_cancel 58 = .ok (.iload_n 3, 1) := by decide +kernel
theorem dX6_cancel_59 : decode cX6_cancel 59 = .ok (.iadd, 1) := by decide +kernel
theorem dX6_cancel_60 : decode cX6_cancel 60 = .ok (.putfield 49, 3) := by decide +kernel
theorem dX6_cancel_63 : decode cX6_cancel 63 = .ok (.iload_n 3, 1) := by decide +kernel
theorem dX6_cancel_64 : decode cX6_cancel 64 = .ok (.ireturn, 1) := by decide +kernel
theorem dX6_mark_0 : decode cX6_mark 0 = .ok (.aload_n 0, 1) := by decide +kernel
theorem dX6_mark_1 : decode cX6_mark 1 = .ok (.iload_n 1, 1) := by decide +kernel
theorem dX6_mark_2 : decode cX6_mark 2 = .ok (.invokevirtual 181, 3) := by decide +kernel
theorem dX6_mark_5 : decode cX6_mark 5 = .ok (.astore_n 3, 1) := by decide +kernel
theorem dX6_mark_6 : decode cX6_mark 6 = .ok (.iload_n 2, 1) := by decide +kernel
theorem dX6_mark_7 : decode cX6_mark 7 = .ok (.ifCond .lt 8, 3) := by decide +kernel
theorem dX6_mark_10 : decode cX6_mark 10 = .ok (.iload_n 2, 1) := by decide +kernel
theorem dX6_mark_11 : decode cX6_mark 11 = .ok (.iconst 2, 1) := by decide +kernel
theorem dX6_mark_12 : decode cX6_mark 12 = .ok (.if_icmp .lt 13, 3) := by decide +kernel
theorem dX6_mark_15 : decode cX6_mark 15 = .ok (.new 125, 3) := by decide +kernel
theorem dX6_mark_18 : decode cX6_mark 18 = .ok (.dup, 1) := by decide +kernel
theorem dX6_mark_19 : decode cX6_mark 19 = .ok (.ldc 230, 2) := by decide +kernel
theorem dX6_mark_21 : decode cX6_mark 21 = .ok (.invokespecial 129, 3) := by decide +kernel
theorem dX6_mark_24 : decode cX6_mark 24 = .ok (.athrow, 1) := by decide +kernel
theorem dX6_mark_25 : decode cX6_mark 25 = .ok (.aload_n 3, 1) := by decide +kernel
theorem dX6_mark_26 : decode cX6_mark 26 = .ok (.getfield 191, 3) := by decide +kernel
theorem dX6_mark_29 : decode cX6_mark 29 = .ok (.ifCond .eq 13, 3) := by decide +kernel
theorem dX6_mark_32 : decode cX6_mark 32 = .ok (.new 90, 3) := by decide +kernel
theorem dX6_mark_35 : decode cX6_mark 35 = .ok (.dup, 1) := by decide +kernel
theorem dX6_mark_36 : decode cX6_mark 36 = .ok (.ldc 194, 2) := by decide +kernel
theorem dX6_mark_38 : decode cX6_mark 38 = .ok (.invokespecial 94, 3) := by decide +kernel
theorem dX6_mark_41 : decode cX6_mark 41 = .ok (.athrow, 1) := by decide +kernel
theorem dX6_mark_42 : decode cX6_mark 42 = .ok (.aload_n 3, 1) := by decide +kernel
theorem dX6_mark_43 : decode cX6_mark 43 = .ok (.getfield 227, 3) := by decide +kernel
theorem dX6_mark_46 : decode cX6_mark 46 = .ok (.aload_n 0, 1) := by decide +kernel
theorem dX6_mark_47 : decode cX6_mark 47 = .ok (.getfield 42, 3) := by decide +kernel
theorem dX6_mark_50 : decode cX6_mark 50 = .ok (.if_icmp .eq 13, 3) := by decide +kernel
theorem dX6_mark_53 : decode cX6_mark 53 = .ok (.new 90, 3) := by decide +kernel
theorem dX6_mark_56 : decode cX6_mark 56 = .ok (.dup, 1) := by decide +kernel
theorem dX6_mark_57 : decode cX6_mark 57 = .ok (.ldc 232, 2) := by decide +kernel
theorem dX6_mark_59 : decode cX6_mark 59 = .ok (.invokespecial 94, 3) := by decide +kernel
theorem dX6_mark_62 : decode cX6_mark 62 = .ok (.athrow, 1) := by decide +kernel
theorem dX6_mark_63 : decode cX6_mark 63 = .ok (.aload_n 3, 1) := by decide +kernel
theorem dX6_mark_64 : decode cX6_mark 64 = .ok (.iload_n 2, 1) := by decide +kernel
theorem dX6_mark_65 : decode cX6_mark 65 = .ok (.invokevirtual 234, 3) := by decide +kernel
theorem dX6_mark_68 : decode cX6_mark 68 = .ok (.ifCond .eq 13, 3) := by decide +kernel
theorem dX6_mark_71 : decode cX6_mark 71 = .ok (.new 90, 3) := by decide +kernel
theorem dX6_mark_74 : decode cX6_mark 74 = .ok (.dup, 1) := by decide +kernel
theorem dX6_mark_75 : decode cX6_mark 75 = .ok (.ldc 237, 2) := by decide +kernel
theorem dX6_mark_77 : decode cX6_mark 77 = .ok (.invokespecial 94, 3) := by decide +kernel
theorem dX6_mark_80 : decode cX6_mark 80 = .ok (.athrow, 1) := by decide +kernel
theorem dX6_mark_81 : decode cX6_mark 81 = .ok (.aload_n 3, 1) := by decide +kernel
theorem dX6_mark_82 : decode cX6_mark 82 = .ok (.iload_n 2, 1) := by decide +kernel
theorem dX6_mark_83 : decode cX6_mark 83 = .ok (.invokevirtual 239, 3) := by decide +kernel
theorem dX6_mark_86 : decode cX6_mark 86 = .ok (.aload_n 3, 1) := by decide +kernel
theorem dX6_mark_87 : decode cX6_mark 87 = .ok (.invokevirtual 242, 3) := by decide +kernel
theorem dX6_mark_90 : decode cX6_mark 90 = .ok (.ireturn, 1) := by decide +kernel
theorem dX6_take_0 : decode cX6_take 0 = .ok (.aload_n 0, 1) := by decide +kernel
theorem dX6_take_1 : decode cX6_take 1 = .ok (.iload_n 1, 1) := by decide +kernel
theorem dX6_take_2 : decode cX6_take 2 = .ok (.invokevirtual 181, 3) := by decide +kernel
theorem dX6_take_5 : decode cX6_take 5 = .ok (.astore_n 2, 1) := by decide +kernel
theorem dX6_take_6 : decode cX6_take 6 = .ok (.aload_n 2, 1) := by decide +kernel
theorem dX6_take_7 : decode cX6_take 7 = .ok (.getfield 191, 3) := by decide +kernel
theorem dX6_take_10 : decode cX6_take 10 = .ok (.ifCond .eq 13, 3) := by decide +kernel
theorem dX6_take_13 : decode cX6_take 13 = .ok (.new 90, 3) := by decide +kernel
theorem dX6_take_16 : decode cX6_take 16 = .ok (.dup, 1) := by decide +kernel
theorem dX6_take_17 : decode cX6_take 17 = .ok (.ldc 194, 2) := by decide +kernel
theorem dX6_take_19 : decode cX6_take 19 = .ok (.invokespecial 94, 3) := by decide +kernel
theorem dX6_take_22 : decode cX6_take 22 = .ok (.athrow, 1) := by decide +kernel
theorem dX6_take_23 : decode cX6_take 23 = .ok (.aload_n 2, 1) := by decide +kernel
theorem dX6_take_24 : decode cX6_take 24 = .ok (.invokevirtual 242, 3) := by decide +kernel
theorem dX6_take_27 : decode cX6_take 27 = .ok (.iconst 2, 1) := by decide +kernel
theorem dX6_take_28 : decode cX6_take 28 = .ok (.if_icmp .ge 13, 3) := by decide +kernel
theorem dX6_take_31 : decode cX6_take 31 = .ok (.new 90, 3) := by decide +kernel
theorem dX6_take_34 : decode cX6_take 34 = .ok (.dup, 1) := by decide +kernel
theorem dX6_take_35 : decode cX6_take 35 = .ok (.ldc 245, 2) := by decide +kernel
theorem dX6_take_37 : decode cX6_take 37 = .ok (.invokespecial 94, 3) := by decide +kernel
theorem dX6_take_40 : decode cX6_take 40 = .ok (.athrow, 1) := by decide +kernel
theorem dX6_take_41 : decode cX6_take 41 = .ok (.aload_n 2, 1) := by decide +kernel
theorem dX6_take_42 : decode cX6_take 42 = .ok (.iconst 1, 1) := by decide +kernel
theorem dX6_take_43 : decode cX6_take 43 = .ok (.putfield 191, 3) := by decide +kernel
theorem dX6_take_46 : decode cX6_take 46 = .ok (.aload_n 2, 1) := by decide +kernel
theorem dX6_take_47 : decode cX6_take 47 = .ok (.getfield 247, 3) := by decide +kernel
theorem dX6_take_50 : decode cX6_take 50 = .ok (.aload_n 2, 1) := by decide +kernel
theorem dX6_take_51 : decode cX6_take 51 = .ok (.getfield 250, 3) := by decide +kernel
theorem dX6_take_54 : decode cX6_take 54 = .ok (.isub, 1) := by decide +kernel
theorem dX6_take_55 : decode cX6_take 55 = .ok (.iconst 1, 1) := by decide +kernel
theorem dX6_take_56 : decode cX6_take 56 = .ok (.iadd, 1) := by decide +kernel
theorem dX6_take_57 : decode cX6_take 57 = .ok (.ireturn, 1) := by decide +kernel
theorem dX6_giveBack_0 : decode cX6_giveBack 0 = .ok (.aload_n 0, 1) := by decide +kernel
theorem dX6_giveBack_1 : decode cX6_giveBack 1 = .ok (.iload_n 1, 1) := by decide +kernel
theorem dX6_giveBack_2 : decode cX6_giveBack 2 = .ok (.invokevirtual 181, 3) := by decide +kernel
theorem dX6_giveBack_5 : decode cX6_giveBack 5 = .ok (.astore_n 2, 1) := by decide +kernel
theorem dX6_giveBack_6 : decode cX6_giveBack 6 = .ok (.aload_n 2, 1) := by decide +kernel
theorem dX6_giveBack_7 : decode cX6_giveBack 7 = .ok (.getfield 191, 3) := by decide +kernel
theorem dX6_giveBack_10 : decode cX6_giveBack 10 = .ok (.iconst 1, 1) := by decide +kernel
theorem dX6_giveBack_11 : decode cX6_giveBack 11 = .ok (.if_icmp .eq 13, 3) := by decide +kernel
theorem dX6_giveBack_14 : decode cX6_giveBack 14 = .ok (.new 90, 3) := by decide +kernel
theorem dX6_giveBack_17 : decode cX6_giveBack 17 = .ok (.dup, 1) := by decide +kernel
theorem dX6_giveBack_18 : decode cX6_giveBack 18 = .ok (.ldc 253, 2) := by decide +kernel
theorem dX6_giveBack_20 : decode cX6_giveBack 20 = .ok (.invokespecial 94, 3) := by decide +kernel
theorem dX6_giveBack_23 : decode cX6_giveBack 23 = .ok (.athrow, 1) := by decide +kernel
theorem dX6_giveBack_24 : decode cX6_giveBack 24 = .ok (.aload_n 0, 1) := by decide +kernel
theorem dX6_giveBack_25 : decode cX6_giveBack 25 = .ok (.aload_n 2, 1) := by decide +kernel
theorem dX6_giveBack_26 : decode cX6_giveBack 26 = .ok (.iconst 0, 1) := by decide +kernel
theorem dX6_giveBack_27 : decode cX6_giveBack 27 = .ok (.invokevirtual 255, 3) := by decide +kernel
theorem dX6_giveBack_30 : decode cX6_giveBack 30 = .ok (.aload_n 2, 1) := by decide +kernel
theorem dX6_giveBack_31 : decode cX6_giveBack 31 = .ok (.getfield 259, 3) := by decide +kernel
theorem dX6_giveBack_34 : decode cX6_giveBack 34 = .ok (.ireturn, 1) := by decide +kernel
theorem dX6_walk_0 : decode cX6_walk 0 = .ok (.aload_n 0, 1) := by decide +kernel
theorem dX6_walk_1 : decode cX6_walk 1 = .ok (.iload_n 1, 1) := by decide +kernel
theorem dX6_walk_2 : decode cX6_walk 2 = .ok (.invokevirtual 64, 3) := by decide +kernel
theorem dX6_walk_5 : decode cX6_walk 5 = .ok (.astore_n 3, 1) := by decide +kernel
theorem dX6_walk_6 : decode cX6_walk 6 = .ok (.iload_n 2, 1) := by decide +kernel
theorem dX6_walk_7 : decode cX6_walk 7 = .ok (.bipush 50, 2) := by decide +kernel
theorem dX6_walk_9 : decode cX6_walk 9 = .ok (.if_icmp .lt 10, 3) := by decide +kernel
theorem dX6_walk_12 : decode cX6_walk 12 = .ok (.iload_n 2, 1) := by decide +kernel
theorem dX6_walk_13 : decode cX6_walk 13 = .ok (.sipush 2000, 3) := by decide +kernel
theorem dX6_walk_16 : decode cX6_walk 16 = .ok (.if_icmp .le 14, 3) := by decide +kernel
theorem dX6_walk_19 : decode cX6_walk 19 = .ok (.new 72, 3) := by decide +kernel
theorem dX6_walk_22 : decode cX6_walk 22 = .ok (.dup, 1) := by decide +kernel
theorem dX6_walk_23 : decode cX6_walk 23 = .ok (.ldc_w 262, 3) := by decide +kernel
theorem dX6_walk_26 : decode cX6_walk 26 = .ok (.invokespecial 76, 3) := by decide +kernel
theorem dX6_walk_29 : decode cX6_walk 29 = .ok (.athrow, 1) := by decide +kernel
theorem dX6_walk_30 : decode cX6_walk 30 = .ok (.aload_n 0, 1) := by decide +kernel
theorem dX6_walk_31 : decode cX6_walk 31 = .ok (.iload_n 1, 1) := by decide +kernel
theorem dX6_walk_32 : decode cX6_walk 32 = .ok (.invokevirtual 264, 3) := by decide +kernel
theorem dX6_walk_35 : decode cX6_walk 35 = .ok (.ifCond .ne 19, 3) := by decide +kernel
theorem dX6_walk_38 : decode cX6_walk 38 = .ok (.aload_n 3, 1) := by decide +kernel
theorem dX6_walk_39 : decode cX6_walk 39 = .ok (.getfield 79, 3) := by decide +kernel
theorem dX6_walk_42 : decode cX6_walk 42 = .ok (.aload_n 0, 1) := by decide +kernel
theorem dX6_walk_43 : decode cX6_walk 43 = .ok (.iload_n 1, 1) := by decide +kernel
theorem dX6_walk_44 : decode cX6_walk 44 = .ok (.invokevirtual 267, 3) := by decide +kernel
theorem dX6_walk_47 : decode cX6_walk 47 = .ok (.iload_n 2, 1) := by decide +kernel
theorem dX6_walk_48 : decode cX6_walk 48 = .ok (.invokestatic 270, 3) := by decide +kernel
theorem dX6_walk_51 : decode cX6_walk 51 = .ok (.ifCond .eq 7, 3) := by decide +kernel
theorem dX6_walk_54 : decode cX6_walk 54 = .ok (.iconst 1, 1) := by decide +kernel
theorem dX6_walk_55 : decode cX6_walk 55 = .ok (.goto 4, 3) := by decide +kernel
theorem dX6_walk_58 : decode cX6_walk 58 = .ok (.iconst 0, 1) := by decide +kernel
theorem dX6_walk_59 : decode cX6_walk 59 = .ok (.istore 4, 2) := by decide +kernel
theorem dX6_walk_61 : decode cX6_walk 61 = .ok (.iload 4, 2) := by decide +kernel
theorem dX6_walk_63 : decode cX6_walk 63 = .ok (.ifCond .ne 13, 3) := by decide +kernel
theorem dX6_walk_66 : decode cX6_walk 66 = .ok (.aload_n 0, 1) := by decide +kernel
theorem dX6_walk_67 : decode cX6_walk 67 = .ok (.dup, 1) := by decide +kernel
theorem dX6_walk_68 : decode cX6_walk 68 = .ok (.getfield 58, 3) := by decide +kernel
theorem dX6_walk_71 : decode cX6_walk 71 = .ok (.iconst 1, 1) := by decide +kernel
theorem dX6_walk_72 : decode cX6_walk 72 = .ok (.iadd, 1) := by decide +kernel
theorem dX6_walk_73 : decode cX6_walk 73 = .ok (.putfield 58, 3) := by decide +kernel
theorem dX6_walk_76 : decode cX6_walk 76 = .ok (.iload 4, 2) := by decide +kernel
theorem dX6_walk_78 : decode cX6_walk 78 = .ok (.ireturn, 1) := by decide +kernel
theorem dX6_ofSection_0 : decode cX6_ofSection 0 = .ok (.aload_n 0, 1) := by decide +kernel
theorem dX6_ofSection_1 : decode cX6_ofSection 1 = .ok (.iload_n 1, 1) := by decide +kernel
theorem dX6_ofSection_2 : decode cX6_ofSection 2 = .ok (.invokevirtual 64, 3) := by decide +kernel
theorem dX6_ofSection_5 : decode cX6_ofSection 5 = .ok (.astore_n 3, 1) := by decide +kernel
theorem dX6_ofSection_6 : decode cX6_ofSection 6 = .ok (.iload_n 2, 1) := by decide +kernel
theorem dX6_ofSection_7 : decode cX6_ofSection 7 = .ok (.tableswitch 106 0 7 #[45, 53, 61, 69, 74, 79, 92, 97], 45) := by decide +kernel
theorem dX6_ofSection_52 : decode cX6_ofSection 52 = .ok (.aload_n 3, 1) := by decide +kernel
theorem dX6_ofSection_53 : decode cX6_ofSection 53 = .ok (.getfield 114, 3) := by decide +kernel
theorem dX6_ofSection_56 : decode cX6_ofSection 56 = .ok (.getfield 274, 3) := by decide +kernel
theorem dX6_ofSection_59 : decode cX6_ofSection 59 = .ok (.ireturn, 1) := by decide +kernel
theorem dX6_ofSection_60 : decode cX6_ofSection 60 = .ok (.aload_n 3, 1) := by decide +kernel
theorem dX6_ofSection_61 : decode cX6_ofSection 61 = .ok (.getfield 114, 3) := by decide +kernel
theorem dX6_ofSection_64 : decode cX6_ofSection 64 = .ok (.getfield 277, 3) := by decide +kernel
theorem dX6_ofSection_67 : decode cX6_ofSection 67 = .ok (.ireturn, 1) := by decide +kernel
theorem dX6_ofSection_68 : decode cX6_ofSection 68 = .ok (.aload_n 3, 1) := by decide +kernel
theorem dX6_ofSection_69 : decode cX6_ofSection 69 = .ok (.getfield 114, 3) := by decide +kernel
theorem dX6_ofSection_72 : decode cX6_ofSection 72 = .ok (.getfield 280, 3) := by decide +kernel
theorem dX6_ofSection_75 : decode cX6_ofSection 75 = .ok (.ireturn, 1) := by decide +kernel
theorem dX6_ofSection_76 : decode cX6_ofSection 76 = .ok (.aload_n 3, 1) := by decide +kernel
theorem dX6_ofSection_77 : decode cX6_ofSection 77 = .ok (.getfield 283, 3) := by decide +kernel
theorem dX6_ofSection_80 : decode cX6_ofSection 80 = .ok (.ireturn, 1) := by decide +kernel
theorem dX6_ofSection_81 : decode cX6_ofSection 81 = .ok (.aload_n 3, 1) := by decide +kernel
theorem dX6_ofSection_82 : decode cX6_ofSection 82 = .ok (.getfield 286, 3) := by decide +kernel
theorem dX6_ofSection_85 : decode cX6_ofSection 85 = .ok (.ireturn, 1) := by decide +kernel
theorem dX6_ofSection_86 : decode cX6_ofSection 86 = .ok (.aload_n 3, 1) := by decide +kernel
theorem dX6_ofSection_87 : decode cX6_ofSection 87 = .ok (.getfield 68, 3) := by decide +kernel
theorem dX6_ofSection_90 : decode cX6_ofSection 90 = .ok (.ifCond .eq 7, 3) := by decide +kernel
theorem dX6_ofSection_93 : decode cX6_ofSection 93 = .ok (.iconst 1, 1) := by decide +kernel
theorem dX6_ofSection_94 : decode cX6_ofSection 94 = .ok (.goto 4, 3) := by decide +kernel
theorem dX6_ofSection_97 : decode cX6_ofSection 97 = .ok (.iconst 0, 1) := by decide +kernel
theorem dX6_ofSection_98 : decode cX6_ofSection 98 = .ok (.ireturn, 1) := by decide +kernel
theorem dX6_ofSection_99 : decode cX6_ofSection 99 = .ok (.aload_n 3, 1) := by decide +kernel
theorem dX6_ofSection_100 : decode cX6_ofSection 100 = .ok (.getfield 79, 3) := by decide +kernel
theorem dX6_ofSection_103 : decode cX6_ofSection 103 = .ok (.ireturn, 1) := by decide +kernel
theorem dX6_ofSection_104 : decode cX6_ofSection 104 = .ok (.aload_n 3, 1) := by decide +kernel
theorem dX6_ofSection_105 : decode cX6_ofSection 105 = .ok (.aload_n 0, 1) := by decide +kernel
theorem dX6_ofSection_106 : decode cX6_ofSection 106 = .ok (.getfield 46, 3) := by decide +kernel
theorem dX6_ofSection_109 : decode cX6_ofSection 109 = .ok (.invokevirtual 289, 3) := by decide +kernel
theorem dX6_ofSection_112 : decode cX6_ofSection 112 = .ok (.ireturn, 1) := by decide +kernel
theorem dX6_ofSection_113 : decode cX6_ofSection 113 = .ok (.new 72, 3) := by decide +kernel
theorem dX6_ofSection_116 : decode cX6_ofSection 116 = .ok (.dup, 1) := by decide +kernel
theorem dX6_ofSection_117 : decode cX6_ofSection 117 = .ok (.ldc_w 292, 3) := by decide +kernel
theorem dX6_ofSection_120 : decode cX6_ofSection 120 = .ok (.invokespecial 76, 3) := by decide +kernel
theorem dX6_ofSection_123 : decode cX6_ofSection 123 = .ok (.athrow, 1) := by decide +kernel
theorem dX6_known_0 : decode cX6_known 0 = .ok (.aload_n 0, 1) := by decide +kernel
theorem dX6_known_1 : decode cX6_known 1 = .ok (.iload_n 1, 1) := by decide +kernel
theorem dX6_known_2 : decode cX6_known 2 = .ok (.invokevirtual 64, 3) := by decide +kernel
theorem dX6_known_5 : decode cX6_known 5 = .ok (.astore_n 3, 1) := by decide +kernel
theorem dX6_known_6 : decode cX6_known 6 = .ok (.aload_n 0, 1) := by decide +kernel
theorem dX6_known_7 : decode cX6_known 7 = .ok (.iload_n 1, 1) := by decide +kernel
theorem dX6_known_8 : decode cX6_known 8 = .ok (.invokevirtual 294, 3) := by decide +kernel
theorem dX6_known_11 : decode cX6_known 11 = .ok (.astore 4, 2) := by decide +kernel
theorem dX6_known_13 : decode cX6_known 13 = .ok (.iload_n 2, 1) := by decide +kernel
theorem dX6_known_14 : decode cX6_known 14 = .ok (.tableswitch 73 0 4 #[34, 40, 46, 52, 67], 34) := by decide +kernel
theorem dX6_known_48 : decode cX6_known 48 = .ok (.aload 4, 2) := by decide +kernel
theorem dX6_known_50 : decode cX6_known 50 = .ok (.getfield 274, 3) := by decide +kernel
theorem dX6_known_53 : decode cX6_known 53 = .ok (.ireturn, 1) := by decide +kernel
theorem dX6_known_54 : decode cX6_known 54 = .ok (.aload 4, 2) := by decide +kernel
theorem dX6_known_56 : decode cX6_known 56 = .ok (.getfield 277, 3) := by decide +kernel
theorem dX6_known_59 : decode cX6_known 59 = .ok (.ireturn, 1) := by decide +kernel
theorem dX6_known_60 : decode cX6_known 60 = .ok (.aload 4, 2) := by decide +kernel
theorem dX6_known_62 : decode cX6_known 62 = .ok (.getfield 280, 3) := by decide +kernel
theorem dX6_known_65 : decode cX6_known 65 = .ok (.ireturn, 1) := by decide +kernel
theorem dX6_known_66 : decode cX6_known 66 = .ok (.aload 4, 2) := by decide +kernel
theorem dX6_known_68 : decode cX6_known 68 = .ok (.aload_n 0, 1) := by decide +kernel
theorem dX6_known_69 : decode cX6_known 69 = .ok (.getfield 46, 3) := by decide +kernel
theorem dX6_known_72 : decode cX6_known 72 = .ok (.aload_n 3, 1) := by decide +kernel
theorem dX6_known_73 : decode cX6_known 73 = .ok (.getfield 286, 3) := by decide +kernel
theorem dX6_known_76 : decode cX6_known 76 = .ok (.isub, 1) := by decide +kernel
theorem dX6_known_77 : decode cX6_known 77 = .ok (.invokevirtual 298, 3) := by decide +kernel
theorem dX6_known_80 : decode cX6_known 80 = .ok (.ireturn, 1) := by decide +kernel
theorem dX6_known_81 : decode cX6_known 81 = .ok (.aload_n 0, 1) := by decide +kernel
theorem dX6_known_82 : decode cX6_known 82 = .ok (.iload_n 1, 1) := by decide +kernel
theorem dX6_known_83 : decode cX6_known 83 = .ok (.invokevirtual 301, 3) := by decide +kernel
theorem dX6_known_86 : decode cX6_known 86 = .ok (.ireturn, 1) := by decide +kernel
theorem dX6_known_87 : decode cX6_known 87 = .ok (.new 72, 3) := by decide +kernel
theorem dX6_known_90 : decode cX6_known 90 = .ok (.dup, 1) := by decide +kernel
theorem dX6_known_91 : decode cX6_known 91 = .ok (.ldc_w 304, 3) := by decide +kernel
theorem dX6_known_94 : decode cX6_known 94 = .ok (.invokespecial 76, 3) := by decide +kernel
theorem dX6_known_97 : decode cX6_known 97 = .ok (.athrow, 1) := by decide +kernel
theorem dX6_why_0 : decode cX6_why 0 = .ok (.aload_n 0, 1) := by decide +kernel
theorem dX6_why_1 : decode cX6_why 1 = .ok (.iload_n 1, 1) := by decide +kernel
theorem dX6_why_2 : decode cX6_why 2 = .ok (.invokevirtual 64, 3) := by decide +kernel
theorem dX6_why_5 : decode cX6_why 5 = .ok (.astore_n 3, 1) := by decide +kernel
theorem dX6_why_6 : decode cX6_why 6 = .ok (.iload_n 2, 1) := by decide +kernel
theorem dX6_why_7 : decode cX6_why 7 = .ok (.ifCond .eq 11, 3) := by decide +kernel
theorem dX6_why_10 : decode cX6_why 10 = .ok (.aload_n 0, 1) := by decide +kernel
theorem dX6_why_11 : decode cX6_why 11 = .ok (.iload_n 1, 1) := by decide +kernel
theorem dX6_why_12 : decode cX6_why 12 = .ok (.invokevirtual 294, 3) := by decide +kernel
theorem dX6_why_15 : decode cX6_why 15 = .ok (.goto 7, 3) := by decide +kernel
theorem dX6_why_18 : decode cX6_why 18 = .ok (.aload_n 3, 1) := by decide +kernel
theorem dX6_why_19 : decode cX6_why 19 = .ok (.getfield 114, 3) := by decide +kernel
theorem dX6_why_22 : decode cX6_why 22 = .ok (.astore 4, 2) := by decide +kernel
theorem dX6_why_24 : decode cX6_why 24 = .ok (.aload 4, 2) := by decide +kernel
theorem dX6_why_26 : decode cX6_why 26 = .ok (.aload_n 0, 1) := by decide +kernel
theorem dX6_why_27 : decode cX6_why 27 = .ok (.getfield 46, 3) := by decide +kernel
theorem dX6_why_30 : decode cX6_why 30 = .ok (.aload_n 3, 1) := by decide +kernel
theorem dX6_why_31 : decode cX6_why 31 = .ok (.getfield 286, 3) := by decide +kernel
theorem dX6_why_34 : decode cX6_why 34 = .ok (.isub, 1) := by decide +kernel
theorem dX6_why_35 : decode cX6_why 35 = .ok (.invokevirtual 306, 3) := by decide +kernel
theorem dX6_why_38 : decode cX6_why 38 = .ok (.ireturn, 1) := by decide +kernel
theorem dX6_ofMachine_0 : decode cX6_ofMachine 0 = .ok (.aload_n 0, 1) := by decide +kernel
theorem dX6_ofMachine_1 : decode cX6_ofMachine 1 = .ok (.iload_n 1, 1) := by decide +kernel
theorem dX6_ofMachine_2 : decode cX6_ofMachine 2 = .ok (.invokevirtual 151, 3) := by decide +kernel
theorem dX6_ofMachine_5 : decode cX6_ofMachine 5 = .ok (.astore_n 3, 1) := by decide +kernel
theorem dX6_ofMachine_6 : decode cX6_ofMachine 6 = .ok (.iload_n 2, 1) := by decide +kernel
theorem dX6_ofMachine_7 : decode cX6_ofMachine 7 = .ok (.tableswitch 49 0 3 #[29, 34, 39, 44], 29) := by decide +kernel
theorem dX6_ofMachine_36 : decode cX6_ofMachine 36 = .ok (.aload_n 3, 1) := by decide +kernel
theorem dX6_ofMachine_37 : decode cX6_ofMachine 37 = .ok (.getfield 201, 3) := by decide +kernel
theorem dX6_ofMachine_40 : decode cX6_ofMachine 40 = .ok (.ireturn, 1) := by decide +kernel
theorem dX6_ofMachine_41 : decode cX6_ofMachine 41 = .ok (.aload_n 3, 1) := by decide +kernel
theorem dX6_ofMachine_42 : decode cX6_ofMachine 42 = .ok (.getfield 161, 3) := by decide +kernel
theorem dX6_ofMachine_45 : decode cX6_ofMachine 45 = .ok (.ireturn, 1) := by decide +kernel
theorem dX6_ofMachine_46 : decode cX6_ofMachine 46 = .ok (.aload_n 3, 1) := by decide +kernel
theorem dX6_ofMachine_47 : decode cX6_ofMachine 47 = .ok (.getfield 309, 3) := by decide +kernel
theorem dX6_ofMachine_50 : decode cX6_ofMachine 50 = .ok (.ireturn, 1) := by decide +kernel
theorem dX6_ofMachine_51 : decode cX6_ofMachine 51 = .ok (.aload_n 3, 1) := by decide +kernel
theorem dX6_ofMachine_52 : decode cX6_ofMachine 52 = .ok (.getfield 312, 3) := by decide +kernel
theorem dX6_ofMachine_55 : decode cX6_ofMachine 55 = .ok (.ireturn, 1) := by decide +kernel
theorem dX6_ofMachine_56 : decode cX6_ofMachine 56 = .ok (.new 72, 3) := by decide +kernel
theorem dX6_ofMachine_59 : decode cX6_ofMachine 59 = .ok (.dup, 1) := by decide +kernel
theorem dX6_ofMachine_60 : decode cX6_ofMachine 60 = .ok (.ldc_w 315, 3) := by decide +kernel
theorem dX6_ofMachine_63 : decode cX6_ofMachine 63 = .ok (.invokespecial 76, 3) := by decide +kernel
theorem dX6_ofMachine_66 : decode cX6_ofMachine 66 = .ok (.athrow, 1) := by decide +kernel
theorem dX6_ofPossession_0 : decode cX6_ofPossession 0 = .ok (.aload_n 0, 1) := by decide +kernel
theorem dX6_ofPossession_1 : decode cX6_ofPossession 1 = .ok (.iload_n 1, 1) := by decide +kernel
theorem dX6_ofPossession_2 : decode cX6_ofPossession 2 = .ok (.invokevirtual 181, 3) := by decide +kernel
theorem dX6_ofPossession_5 : decode cX6_ofPossession 5 = .ok (.astore_n 3, 1) := by decide +kernel
theorem dX6_ofPossession_6 : decode cX6_ofPossession 6 = .ok (.iload_n 2, 1) := by decide +kernel
theorem dX6_ofPossession_7 : decode cX6_ofPossession 7 = .ok (.tableswitch 106 0 9 #[53, 58, 63, 68, 73, 78, 83, 91, 96, 101], 53) := by decide +kernel
theorem dX6_ofPossession_60 : decode cX6_ofPossession 60 = .ok (.aload_n 3, 1) := by decide +kernel
theorem dX6_ofPossession_61 : decode cX6_ofPossession 61 = .ok (.getfield 191, 3) := by decide +kernel
theorem dX6_ofPossession_64 : decode cX6_ofPossession 64 = .ok (.ireturn, 1) := by decide +kernel
theorem dX6_ofPossession_65 : decode cX6_ofPossession 65 = .ok (.aload_n 3, 1) := by decide +kernel
theorem dX6_ofPossession_66 : decode cX6_ofPossession 66 = .ok (.getfield 317, 3) := by decide +kernel
theorem dX6_ofPossession_69 : decode cX6_ofPossession 69 = .ok (.ireturn, 1) := by decide +kernel
theorem dX6_ofPossession_70 : decode cX6_ofPossession 70 = .ok (.aload_n 3, 1) := by decide +kernel
theorem dX6_ofPossession_71 : decode cX6_ofPossession 71 = .ok (.getfield 250, 3) := by decide +kernel
theorem dX6_ofPossession_74 : decode cX6_ofPossession 74 = .ok (.ireturn, 1) := by decide +kernel
theorem dX6_ofPossession_75 : decode cX6_ofPossession 75 = .ok (.aload_n 3, 1) := by decide +kernel
theorem dX6_ofPossession_76 : decode cX6_ofPossession 76 = .ok (.getfield 247, 3) := by decide +kernel
theorem dX6_ofPossession_79 : decode cX6_ofPossession 79 = .ok (.ireturn, 1) := by decide +kernel
theorem dX6_ofPossession_80 : decode cX6_ofPossession 80 = .ok (.aload_n 3, 1) := by decide +kernel
theorem dX6_ofPossession_81 : decode cX6_ofPossession 81 = .ok (.getfield 227, 3) := by decide +kernel
theorem dX6_ofPossession_84 : decode cX6_ofPossession 84 = .ok (.ireturn, 1) := by decide +kernel
theorem dX6_ofPossession_85 : decode cX6_ofPossession 85 = .ok (.aload_n 3, 1) := by decide +kernel
theorem dX6_ofPossession_86 : decode cX6_ofPossession 86 = .ok (.getfield 211, 3) := by decide +kernel
theorem dX6_ofPossession_89 : decode cX6_ofPossession 89 = .ok (.ireturn, 1) := by decide +kernel
theorem dX6_ofPossession_90 : decode cX6_ofPossession 90 = .ok (.aload_n 3, 1) := by decide +kernel
theorem dX6_ofPossession_91 : decode cX6_ofPossession 91 = .ok (.getfield 196, 3) := by decide +kernel
theorem dX6_ofPossession_94 : decode cX6_ofPossession 94 = .ok (.invokevirtual 104, 3) := by decide +kernel
theorem dX6_ofPossession_97 : decode cX6_ofPossession 97 = .ok (.ireturn, 1) := by decide +kernel
theorem dX6_ofPossession_98 : decode cX6_ofPossession 98 = .ok (.aload_n 3, 1) := by decide +kernel
theorem dX6_ofPossession_99 : decode cX6_ofPossession 99 = .ok (.invokevirtual 208, 3) := by decide +kernel
theorem dX6_ofPossession_102 : decode cX6_ofPossession 102 = .ok (.ireturn, 1) := by decide +kernel
theorem dX6_ofPossession_103 : decode cX6_ofPossession 103 = .ok (.aload_n 3, 1) := by decide +kernel
theorem dX6_ofPossession_104 : decode cX6_ofPossession 104 = .ok (.invokevirtual 242, 3) := by decide +kernel
theorem dX6_ofPossession_107 : decode cX6_ofPossession 107 = .ok (.ireturn, 1) := by decide +kernel
theorem dX6_ofPossession_108 : decode cX6_ofPossession 108 = .ok (.aload_n 3, 1) := by decide +kernel
theorem dX6_ofPossession_109 : decode cX6_ofPossession 109 = .ok (.getfield 259, 3) := by decide +kernel
theorem dX6_ofPossession_112 : decode cX6_ofPossession 112 = .ok (.ireturn, 1) := by decide +kernel
theorem dX6_ofPossession_113 : decode cX6_ofPossession 113 = .ok (.new 72, 3) := by decide +kernel
theorem dX6_ofPossession_116 : decode cX6_ofPossession 116 = .ok (.dup, 1) := by decide +kernel
theorem dX6_ofPossession_117 : decode cX6_ofPossession 117 = .ok (.ldc_w 320, 3) := by decide +kernel
theorem dX6_ofPossession_120 : decode cX6_ofPossession 120 = .ok (.invokespecial 76, 3) := by decide +kernel
theorem dX6_ofPossession_123 : decode cX6_ofPossession 123 = .ok (.athrow, 1) := by decide +kernel
theorem dX6_many_0 : decode cX6_many 0 = .ok (.iload_n 1, 1) := by decide +kernel
theorem dX6_many_1 : decode cX6_many 1 = .ok (.tableswitch 179 0 16 #[83, 88, 96, 104, 109, 115, 121, 127, 133, 139, 144, 149, 154, 159, 164, 169, 174], 83) := by decide +kernel
theorem dX6_many_84 : decode cX6_many 84 = .ok (.aload_n 0, 1) := by decide +kernel
theorem dX6_many_85 : decode cX6_many 85 = .ok (.getfield 42, 3) := by decide +kernel
theorem dX6_many_88 : decode cX6_many 88 = .ok (.ireturn, 1) := by decide +kernel
theorem dX6_many_89 : decode cX6_many 89 = .ok (.aload_n 0, 1) := by decide +kernel
theorem dX6_many_90 : decode cX6_many 90 = .ok (.getfield 22, 3) := by decide +kernel
theorem dX6_many_93 : decode cX6_many 93 = .ok (.invokevirtual 104, 3) := by decide +kernel
theorem dX6_many_96 : decode cX6_many 96 = .ok (.ireturn, 1) := by decide +kernel
theorem dX6_many_97 : decode cX6_many 97 = .ok (.aload_n 0, 1) := by decide +kernel
theorem dX6_many_98 : decode cX6_many 98 = .ok (.getfield 18, 3) := by decide +kernel
theorem dX6_many_101 : decode cX6_many 101 = .ok (.invokevirtual 104, 3) := by decide +kernel
theorem dX6_many_104 : decode cX6_many 104 = .ok (.ireturn, 1) := by decide +kernel
theorem dX6_many_105 : decode cX6_many 105 = .ok (.aload_n 0, 1) := by decide +kernel
theorem dX6_many_106 : decode cX6_many 106 = .ok (.invokevirtual 322, 3) := by decide +kernel
theorem dX6_many_109 : decode cX6_many 109 = .ok (.ireturn, 1) := by decide +kernel
theorem dX6_many_110 : decode cX6_many 110 = .ok (.aload_n 0, 1) := by decide +kernel
theorem dX6_many_111 : decode cX6_many 111 = .ok (.iconst 0, 1) := by decide +kernel
theorem dX6_many_112 : decode cX6_many 112 = .ok (.invokevirtual 325, 3) := by decide +kernel
theorem dX6_many_115 : decode cX6_many 115 = .ok (.ireturn, 1) := by decide +kernel
theorem dX6_many_116 : decode cX6_many 116 = .ok (.aload_n 0, 1) := by decide +kernel
theorem dX6_many_117 : decode cX6_many 117 = .ok (.iconst 1, 1) := by decide +kernel
theorem dX6_many_118 : decode cX6_many 118 = .ok (.invokevirtual 325, 3) := by decide +kernel
theorem dX6_many_121 : decode cX6_many 121 = .ok (.ireturn, 1) := by decide +kernel
theorem dX6_many_122 : decode cX6_many 122 = .ok (.aload_n 0, 1) := by decide +kernel
theorem dX6_many_123 : decode cX6_many 123 = .ok (.iconst 2, 1) := by decide +kernel
theorem dX6_many_124 : decode cX6_many 124 = .ok (.invokevirtual 325, 3) := by decide +kernel
theorem dX6_many_127 : decode cX6_many 127 = .ok (.ireturn, 1) := by decide +kernel
theorem dX6_many_128 : decode cX6_many 128 = .ok (.aload_n 0, 1) := by decide +kernel
theorem dX6_many_129 : decode cX6_many 129 = .ok (.iconst 3, 1) := by decide +kernel
theorem dX6_many_130 : decode cX6_many 130 = .ok (.invokevirtual 325, 3) := by decide +kernel
theorem dX6_many_133 : decode cX6_many 133 = .ok (.ireturn, 1) := by decide +kernel
theorem dX6_many_134 : decode cX6_many 134 = .ok (.aload_n 0, 1) := by decide +kernel
theorem dX6_many_135 : decode cX6_many 135 = .ok (.iconst 4, 1) := by decide +kernel
theorem dX6_many_136 : decode cX6_many 136 = .ok (.invokevirtual 325, 3) := by decide +kernel
theorem dX6_many_139 : decode cX6_many 139 = .ok (.ireturn, 1) := by decide +kernel
theorem dX6_many_140 : decode cX6_many 140 = .ok (.aload_n 0, 1) := by decide +kernel
theorem dX6_many_141 : decode cX6_many 141 = .ok (.getfield 49, 3) := by decide +kernel
theorem dX6_many_144 : decode cX6_many 144 = .ok (.ireturn, 1) := by decide +kernel
theorem dX6_many_145 : decode cX6_many 145 = .ok (.aload_n 0, 1) := by decide +kernel
theorem dX6_many_146 : decode cX6_many 146 = .ok (.getfield 52, 3) := by decide +kernel
theorem dX6_many_149 : decode cX6_many 149 = .ok (.ireturn, 1) := by decide +kernel
theorem dX6_many_150 : decode cX6_many 150 = .ok (.aload_n 0, 1) := by decide +kernel
theorem dX6_many_151 : decode cX6_many 151 = .ok (.getfield 55, 3) := by decide +kernel
theorem dX6_many_154 : decode cX6_many 154 = .ok (.ireturn, 1) := by decide +kernel
theorem dX6_many_155 : decode cX6_many 155 = .ok (.aload_n 0, 1) := by decide +kernel
theorem dX6_many_156 : decode cX6_many 156 = .ok (.getfield 58, 3) := by decide +kernel
theorem dX6_many_159 : decode cX6_many 159 = .ok (.ireturn, 1) := by decide +kernel
theorem dX6_many_160 : decode cX6_many 160 = .ok (.aload_n 0, 1) := by decide +kernel
theorem dX6_many_161 : decode cX6_many 161 = .ok (.invokevirtual 328, 3) := by decide +kernel
theorem dX6_many_164 : decode cX6_many 164 = .ok (.ireturn, 1) := by decide +kernel
theorem dX6_many_165 : decode cX6_many 165 = .ok (.aload_n 0, 1) := by decide +kernel
theorem dX6_many_166 : decode cX6_many 166 = .ok (.invokevirtual 331, 3) := by decide +kernel
theorem dX6_many_169 : decode cX6_many 169 = .ok (.ireturn, 1) := by decide +kernel
theorem dX6_many_170 : decode cX6_many 170 = .ok (.aload_n 0, 1) := by decide +kernel
theorem dX6_many_171 : decode cX6_many 171 = .ok (.getfield 46, 3) := by decide +kernel
theorem dX6_many_174 : decode cX6_many 174 = .ok (.ireturn, 1) := by decide +kernel
theorem dX6_many_175 : decode cX6_many 175 = .ok (.aload_n 0, 1) := by decide +kernel
theorem dX6_many_176 : decode cX6_many 176 = .ok (.getfield 61, 3) := by decide +kernel
theorem dX6_many_179 : decode cX6_many 179 = .ok (.ireturn, 1) := by decide +kernel
theorem dX6_many_180 : decode cX6_many 180 = .ok (.new 72, 3) := by decide +kernel
theorem dX6_many_183 : decode cX6_many 183 = .ok (.dup, 1) := by decide +kernel
theorem dX6_many_184 : decode cX6_many 184 = .ok (.ldc_w 334, 3) := by decide +kernel
theorem dX6_many_187 : decode cX6_many 187 = .ok (.invokespecial 76, 3) := by decide +kernel
theorem dX6_many_190 : decode cX6_many 190 = .ok (.athrow, 1) := by decide +kernel
theorem dX6_meanWear_0 : decode cX6_meanWear 0 = .ok (.iload_n 1, 1) := by decide +kernel
theorem dX6_meanWear_1 : decode cX6_meanWear 1 = .ok (.ifCond .lt 8, 3) := by decide +kernel
theorem dX6_meanWear_4 : decode cX6_meanWear 4 = .ok (.iload_n 1, 1) := by decide +kernel
theorem dX6_meanWear_5 : decode cX6_meanWear 5 = .ok (.iconst 2, 1) := by decide +kernel
theorem dX6_meanWear_6 : decode cX6_meanWear 6 = .ok (.if_icmp .lt 14, 3) := by decide +kernel
theorem dX6_meanWear_9 : decode cX6_meanWear 9 = .ok (.new 125, 3) := by decide +kernel
theorem dX6_meanWear_12 : decode cX6_meanWear 12 = .ok (.dup, 1) := by decide +kernel
theorem dX6_meanWear_13 : decode cX6_meanWear 13 = .ok (.ldc_w 336, 3) := by decide +kernel
theorem dX6_meanWear_16 : decode cX6_meanWear 16 = .ok (.invokespecial 129, 3) := by decide +kernel
theorem dX6_meanWear_19 : decode cX6_meanWear 19 = .ok (.athrow, 1) := by decide +kernel
theorem dX6_meanWear_20 : decode cX6_meanWear 20 = .ok (.iconst 0, 1) := by decide +kernel
theorem dX6_meanWear_21 : decode cX6_meanWear 21 = .ok (.istore_n 2, 1) := by decide +kernel
theorem dX6_meanWear_22 : decode cX6_meanWear 22 = .ok (.iconst 0, 1) := by decide +kernel
theorem dX6_meanWear_23 : decode cX6_meanWear 23 = .ok (.istore_n 3, 1) := by decide +kernel
theorem dX6_meanWear_24 : decode cX6_meanWear 24 = .ok (.iload_n 3, 1) := by decide +kernel
theorem dX6_meanWear_25 : decode cX6_meanWear 25 = .ok (.bipush 10, 2) := by decide +kernel
theorem dX6_meanWear_27 : decode cX6_meanWear 27 = .ok (.if_icmp .ge 29, 3) := by decide +kernel
theorem dX6_meanWear_30 : decode cX6_meanWear 30 = .ok (.iload_n 2, 1) := by decide +kernel
theorem dX6_meanWear_31 : decode cX6_meanWear 31 = .ok (.aload_n 0, 1) := by decide +kernel
theorem dX6_meanWear_32 : decode cX6_meanWear 32 = .ok (.getfield 11, 3) := by decide +kernel
theorem dX6_meanWear_35 : decode cX6_meanWear 35 = .ok (.iload_n 1, 1) := by decide +kernel
theorem dX6_meanWear_36 : decode cX6_meanWear 36 = .ok (.bipush 10, 2) := by decide +kernel
theorem dX6_meanWear_38 : decode cX6_meanWear 38 = .ok (.imul, 1) := by decide +kernel
theorem dX6_meanWear_39 : decode cX6_meanWear 39 = .ok (.iload_n 3, 1) := by decide +kernel
theorem dX6_meanWear_40 : decode cX6_meanWear 40 = .ok (.iadd, 1) := by decide +kernel
theorem dX6_meanWear_41 : decode cX6_meanWear 41 = .ok (.aaload, 1) := by decide +kernel
theorem dX6_meanWear_42 : decode cX6_meanWear 42 = .ok (.getfield 114, 3) := by decide +kernel
theorem dX6_meanWear_45 : decode cX6_meanWear 45 = .ok (.getfield 274, 3) := by decide +kernel
theorem dX6_meanWear_48 : decode cX6_meanWear 48 = .ok (.iadd, 1) := by decide +kernel
theorem dX6_meanWear_49 : decode cX6_meanWear 49 = .ok (.istore_n 2, 1) := by decide +kernel
theorem dX6_meanWear_50 : decode cX6_meanWear 50 = .ok (.iinc 3 1, 3) := by decide +kernel
theorem dX6_meanWear_53 : decode cX6_meanWear 53 = .ok (.goto (-29), 3) := by decide +kernel
theorem dX6_meanWear_56 : decode cX6_meanWear 56 = .ok (.iload_n 2, 1) := by decide +kernel
theorem dX6_meanWear_57 : decode cX6_meanWear 57 = .ok (.i2d, 1) := by decide +kernel
theorem dX6_meanWear_58 : decode cX6_meanWear 58 = .ok (.ldc2_w 338, 3) := by decide +kernel
theorem dX6_meanWear_61 : decode cX6_meanWear 61 = .ok (.ddiv, 1) := by decide +kernel
theorem dX6_meanWear_62 : decode cX6_meanWear 62 = .ok (.dreturn, 1) := by decide +kernel
theorem dX6_couldSee_0 : decode cX6_couldSee 0 = .ok (.aload_n 0, 1) := by decide +kernel
theorem dX6_couldSee_1 : decode cX6_couldSee 1 = .ok (.iload_n 1, 1) := by decide +kernel
theorem dX6_couldSee_2 : decode cX6_couldSee 2 = .ok (.invokevirtual 340, 3) := by decide +kernel
theorem dX6_couldSee_5 : decode cX6_couldSee 5 = .ok (.iconst 0, 1) := by decide +kernel
theorem dX6_couldSee_6 : decode cX6_couldSee 6 = .ok (.istore_n 2, 1) := by decide +kernel
theorem dX6_couldSee_7 : decode cX6_couldSee 7 = .ok (.iload_n 2, 1) := by decide +kernel
theorem dX6_couldSee_8 : decode cX6_couldSee 8 = .ok (.aload_n 0, 1) := by decide +kernel
theorem dX6_couldSee_9 : decode cX6_couldSee 9 = .ok (.getfield 18, 3) := by decide +kernel
theorem dX6_couldSee_12 : decode cX6_couldSee 12 = .ok (.invokevirtual 104, 3) := by decide +kernel
theorem dX6_couldSee_15 : decode cX6_couldSee 15 = .ok (.if_icmp .ge 38, 3) := by decide +kernel
theorem dX6_couldSee_18 : decode cX6_couldSee 18 = .ok (.aload_n 0, 1) := by decide +kernel
theorem dX6_couldSee_19 : decode cX6_couldSee 19 = .ok (.getfield 18, 3) := by decide +kernel
theorem dX6_couldSee_22 : decode cX6_couldSee 22 = .ok (.iload_n 2, 1) := by decide +kernel
theorem dX6_couldSee_23 : decode cX6_couldSee 23 = .ok (.invokevirtual 130, 3) := by decide +kernel
theorem dX6_couldSee_26 : decode cX6_couldSee 26 = .ok (.checkcast 110, 3) := by decide +kernel
theorem dX6_couldSee_29 : decode cX6_couldSee 29 = .ok (.iload_n 1, 1) := by decide +kernel
theorem dX6_couldSee_30 : decode cX6_couldSee 30 = .ok (.invokevirtual 343, 3) := by decide +kernel
theorem dX6_couldSee_33 : decode cX6_couldSee 33 = .ok (.astore_n 3, 1) := by decide +kernel
theorem dX6_couldSee_34 : decode cX6_couldSee 34 = .ok (.aload_n 3, 1) := by decide +kernel
theorem dX6_couldSee_35 : decode cX6_couldSee 35 = .ok (.ifnull 12, 3) := by decide +kernel
theorem dX6_couldSee_38 : decode cX6_couldSee 38 = .ok (.aload_n 3, 1) := by decide +kernel
theorem dX6_couldSee_39 : decode cX6_couldSee 39 = .ok (.getfield 277, 3) := by decide +kernel
theorem dX6_couldSee_42 : decode cX6_couldSee 42 = .ok (.ifCond .le 5, 3) := by decide +kernel
theorem dX6_couldSee_45 : decode cX6_couldSee 45 = .ok (.iload_n 2, 1) := by decide +kernel
theorem dX6_couldSee_46 : decode cX6_couldSee 46 = .ok (.ireturn, 1) := by decide +kernel
theorem dX6_couldSee_47 : decode cX6_couldSee 47 = .ok (.iinc 2 1, 3) := by decide +kernel
theorem dX6_couldSee_50 : decode cX6_couldSee 50 = .ok (.goto (-43), 3) := by decide +kernel
theorem dX6_couldSee_53 : decode cX6_couldSee 53 = .ok (.iconst (-1), 1) := by decide +kernel
theorem dX6_couldSee_54 : decode cX6_couldSee 54 = .ok (.ireturn, 1) := by decide +kernel
theorem dX6_firstRisk_0 : decode cX6_firstRisk 0 = .ok (.aload_n 0, 1) := by decide +kernel
theorem dX6_firstRisk_1 : decode cX6_firstRisk 1 = .ok (.iload_n 1, 1) := by decide +kernel
theorem dX6_firstRisk_2 : decode cX6_firstRisk 2 = .ok (.invokevirtual 64, 3) := by decide +kernel
theorem dX6_firstRisk_5 : decode cX6_firstRisk 5 = .ok (.astore_n 3, 1) := by decide +kernel
theorem dX6_firstRisk_6 : decode cX6_firstRisk 6 = .ok (.aload_n 0, 1) := by decide +kernel
theorem dX6_firstRisk_7 : decode cX6_firstRisk 7 = .ok (.iload_n 2, 1) := by decide +kernel
theorem dX6_firstRisk_8 : decode cX6_firstRisk 8 = .ok (.invokevirtual 82, 3) := by decide +kernel
theorem dX6_firstRisk_11 : decode cX6_firstRisk 11 = .ok (.aload_n 0, 1) := by decide +kernel
theorem dX6_firstRisk_12 : decode cX6_firstRisk 12 = .ok (.getfield 38, 3) := by decide +kernel
theorem dX6_firstRisk_15 : decode cX6_firstRisk 15 = .ok (.aload_n 3, 1) := by decide +kernel
theorem dX6_firstRisk_16 : decode cX6_firstRisk 16 = .ok (.invokevirtual 346, 3) := by decide +kernel
theorem dX6_firstRisk_19 : decode cX6_firstRisk 19 = .ok (.iconst 0, 1) := by decide +kernel
theorem dX6_firstRisk_20 : decode cX6_firstRisk 20 = .ok (.istore 4, 2) := by decide +kernel
theorem dX6_firstRisk_22 : decode cX6_firstRisk 22 = .ok (.iload 4, 2) := by decide +kernel
theorem dX6_firstRisk_24 : decode cX6_firstRisk 24 = .ok (.sipush 200, 3) := by decide +kernel
theorem dX6_firstRisk_27 : decode cX6_firstRisk 27 = .ok (.if_icmp .gt 34, 3) := by decide +kernel
theorem dX6_firstRisk_30 : decode cX6_firstRisk 30 = .ok (.aload_n 0, 1) := by decide +kernel
theorem dX6_firstRisk_31 : decode cX6_firstRisk 31 = .ok (.getfield 38, 3) := by decide +kernel
theorem dX6_firstRisk_34 : decode cX6_firstRisk 34 = .ok (.aload_n 0, 1) := by decide +kernel
theorem dX6_firstRisk_35 : decode cX6_firstRisk 35 = .ok (.getfield 46, 3) := by decide +kernel
theorem dX6_firstRisk_38 : decode cX6_firstRisk 38 = .ok (.invokevirtual 350, 3) := by decide +kernel
theorem dX6_firstRisk_41 : decode cX6_firstRisk 41 = .ok (.ifCond .eq 6, 3) := by decide +kernel
theorem dX6_firstRisk_44 : decode cX6_firstRisk 44 = .ok (.iload 4, 2) := by decide +kernel
theorem dX6_firstRisk_46 : decode cX6_firstRisk 46 = .ok (.ireturn, 1) := by decide +kernel
theorem dX6_firstRisk_47 : decode cX6_firstRisk 47 = .ok (.aload_n 0, 1) := by decide +kernel
theorem dX6_firstRisk_48 : decode cX6_firstRisk 48 = .ok (.getfield 38, 3) := by decide +kernel
theorem dX6_firstRisk_51 : decode cX6_firstRisk 51 = .ok (.iload_n 2, 1) := by decide +kernel
theorem dX6_firstRisk_52 : decode cX6_firstRisk 52 = .ok (.invokevirtual 353, 3) := by decide +kernel
theorem dX6_firstRisk_55 : decode cX6_firstRisk 55 = .ok (.iinc 4 1, 3) := by decide +kernel
theorem dX6_firstRisk_58 : decode cX6_firstRisk 58 = .ok (.goto (-36), 3) := by decide +kernel
theorem dX6_firstRisk_61 : decode cX6_firstRisk 61 = .ok (.iconst (-1), 1) := by decide +kernel
theorem dX6_firstRisk_62 : decode cX6_firstRisk 62 = .ok (.ireturn, 1) := by decide +kernel
theorem dX6_bestWork_0 : decode cX6_bestWork 0 = .ok (.aload_n 0, 1) := by decide +kernel
theorem dX6_bestWork_1 : decode cX6_bestWork 1 = .ok (.iload_n 1, 1) := by decide +kernel
theorem dX6_bestWork_2 : decode cX6_bestWork 2 = .ok (.invokevirtual 64, 3) := by decide +kernel
theorem dX6_bestWork_5 : decode cX6_bestWork 5 = .ok (.astore 4, 2) := by decide +kernel
theorem dX6_bestWork_7 : decode cX6_bestWork 7 = .ok (.aload_n 0, 1) := by decide +kernel
theorem dX6_bestWork_8 : decode cX6_bestWork 8 = .ok (.iload_n 2, 1) := by decide +kernel
theorem dX6_bestWork_9 : decode cX6_bestWork 9 = .ok (.invokevirtual 82, 3) := by decide +kernel
theorem dX6_bestWork_12 : decode cX6_bestWork 12 = .ok (.iload_n 3, 1) := by decide +kernel
theorem dX6_bestWork_13 : decode cX6_bestWork 13 = .ok (.iconst 1, 1) := by decide +kernel
theorem dX6_bestWork_14 : decode cX6_bestWork 14 = .ok (.if_icmp .lt 10, 3) := by decide +kernel
theorem dX6_bestWork_17 : decode cX6_bestWork 17 = .ok (.iload_n 3, 1) := by decide +kernel
theorem dX6_bestWork_18 : decode cX6_bestWork 18 = .ok (.sipush 200, 3) := by decide +kernel
theorem dX6_bestWork_21 : decode cX6_bestWork 21 = .ok (.if_icmp .le 14, 3) := by decide +kernel
theorem dX6_bestWork_24 : decode cX6_bestWork 24 = .ok (.new 72, 3) := by decide +kernel
theorem dX6_bestWork_27 : decode cX6_bestWork 27 = .ok (.dup, 1) := by decide +kernel
theorem dX6_bestWork_28 : decode cX6_bestWork 28 = .ok (.ldc_w 356, 3) := by decide +kernel
theorem dX6_bestWork_31 : decode cX6_bestWork 31 = .ok (.invokespecial 76, 3) := by decide +kernel
theorem dX6_bestWork_34 : decode cX6_bestWork 34 = .ok (.athrow, 1) := by decide +kernel
theorem dX6_bestWork_35 : decode cX6_bestWork 35 = .ok (.iconst 0, 1) := by decide +kernel
theorem dX6_bestWork_36 : decode cX6_bestWork 36 = .ok (.istore 5, 2) := by decide +kernel
theorem dX6_bestWork_38 : decode cX6_bestWork 38 = .ok (.aload_n 0, 1) := by decide +kernel
theorem dX6_bestWork_39 : decode cX6_bestWork 39 = .ok (.aload 4, 2) := by decide +kernel
theorem dX6_bestWork_41 : decode cX6_bestWork 41 = .ok (.iconst 0, 1) := by decide +kernel
theorem dX6_bestWork_42 : decode cX6_bestWork 42 = .ok (.iload_n 2, 1) := by decide +kernel
theorem dX6_bestWork_43 : decode cX6_bestWork 43 = .ok (.iload_n 3, 1) := by decide +kernel
theorem dX6_bestWork_44 : decode cX6_bestWork 44 = .ok (.invokevirtual 358, 3) := by decide +kernel
theorem dX6_bestWork_47 : decode cX6_bestWork 47 = .ok (.istore 6, 2) := by decide +kernel
theorem dX6_bestWork_49 : decode cX6_bestWork 49 = .ok (.iconst 1, 1) := by decide +kernel
theorem dX6_bestWork_50 : decode cX6_bestWork 50 = .ok (.istore 7, 2) := by decide +kernel
theorem dX6_bestWork_52 : decode cX6_bestWork 52 = .ok (.iload 7, 2) := by decide +kernel
theorem dX6_bestWork_54 : decode cX6_bestWork 54 = .ok (.iconst 3, 1) := by decide +kernel
theorem dX6_bestWork_55 : decode cX6_bestWork 55 = .ok (.if_icmp .gt 36, 3) := by decide +kernel
theorem dX6_bestWork_58 : decode cX6_bestWork 58 = .ok (.aload_n 0, 1) := by decide +kernel
theorem dX6_bestWork_59 : decode cX6_bestWork 59 = .ok (.aload 4, 2) := by decide +kernel
theorem dX6_bestWork_61 : decode cX6_bestWork 61 = .ok (.iload 7, 2) := by decide +kernel
theorem dX6_bestWork_63 : decode cX6_bestWork 63 = .ok (.iload_n 2, 1) := by decide +kernel
theorem dX6_bestWork_64 : decode cX6_bestWork 64 = .ok (.iload_n 3, 1) := by decide +kernel
theorem dX6_bestWork_65 : decode cX6_bestWork 65 = .ok (.invokevirtual 358, 3) := by decide +kernel
theorem dX6_bestWork_68 : decode cX6_bestWork 68 = .ok (.istore 8, 2) := by decide +kernel
theorem dX6_bestWork_70 : decode cX6_bestWork 70 = .ok (.iload 8, 2) := by decide +kernel
theorem dX6_bestWork_72 : decode cX6_bestWork 72 = .ok (.iload 6, 2) := by decide +kernel
theorem dX6_bestWork_74 : decode cX6_bestWork 74 = .ok (.if_icmp .ge 11, 3) := by decide +kernel
theorem dX6_bestWork_77 : decode cX6_bestWork 77 = .ok (.iload 7, 2) := by decide +kernel
theorem dX6_bestWork_79 : decode cX6_bestWork 79 = .ok (.istore 5, 2) := by decide +kernel
theorem dX6_bestWork_81 : decode cX6_bestWork 81 = .ok (.iload 8, 2) := by decide +kernel
theorem dX6_bestWork_83 : decode cX6_bestWork 83 = .ok (.istore 6, 2) := by decide +kernel
theorem dX6_bestWork_85 : decode cX6_bestWork 85 = .ok (.iinc 7 1, 3) := by decide +kernel
theorem dX6_bestWork_88 : decode cX6_bestWork 88 = .ok (.goto (-36), 3) := by decide +kernel
theorem dX6_bestWork_91 : decode cX6_bestWork 91 = .ok (.iload 5, 2) := by decide +kernel
theorem dX6_bestWork_93 : decode cX6_bestWork 93 = .ok (.ireturn, 1) := by decide +kernel
theorem dX6_freeDay_0 : decode cX6_freeDay 0 = .ok (.aload_n 0, 1) := by decide +kernel
theorem dX6_freeDay_1 : decode cX6_freeDay 1 = .ok (.iload_n 1, 1) := by decide +kernel
theorem dX6_freeDay_2 : decode cX6_freeDay 2 = .ok (.iload_n 2, 1) := by decide +kernel
theorem dX6_freeDay_3 : decode cX6_freeDay 3 = .ok (.iload_n 3, 1) := by decide +kernel
theorem dX6_freeDay_4 : decode cX6_freeDay 4 = .ok (.invokevirtual 99, 3) := by decide +kernel
theorem dX6_freeDay_7 : decode cX6_freeDay 7 = .ok (.aload_n 0, 1) := by decide +kernel
theorem dX6_freeDay_8 : decode cX6_freeDay 8 = .ok (.getfield 42, 3) := by decide +kernel
theorem dX6_freeDay_11 : decode cX6_freeDay 11 = .ok (.iconst 5, 1) := by decide +kernel
theorem dX6_freeDay_12 : decode cX6_freeDay 12 = .ok (.iadd, 1) := by decide +kernel
theorem dX6_freeDay_13 : decode cX6_freeDay 13 = .ok (.istore 4, 2) := by decide +kernel
theorem dX6_freeDay_15 : decode cX6_freeDay 15 = .ok (.iload 4, 2) := by decide +kernel
theorem dX6_freeDay_17 : decode cX6_freeDay 17 = .ok (.sipush 2000, 3) := by decide +kernel
theorem dX6_freeDay_20 : decode cX6_freeDay 20 = .ok (.if_icmp .gt 24, 3) := by decide +kernel
theorem dX6_freeDay_23 : decode cX6_freeDay 23 = .ok (.aload_n 0, 1) := by decide +kernel
theorem dX6_freeDay_24 : decode cX6_freeDay 24 = .ok (.iload_n 1, 1) := by decide +kernel
theorem dX6_freeDay_25 : decode cX6_freeDay 25 = .ok (.iload_n 2, 1) := by decide +kernel
theorem dX6_freeDay_26 : decode cX6_freeDay 26 = .ok (.iload_n 3, 1) := by decide +kernel
theorem dX6_freeDay_27 : decode cX6_freeDay 27 = .ok (.iload 4, 2) := by decide +kernel
theorem dX6_freeDay_29 : decode cX6_freeDay 29 = .ok (.invokevirtual 170, 3) := by decide +kernel
theorem dX6_freeDay_32 : decode cX6_freeDay 32 = .ok (.ifCond .eq 6, 3) := by decide +kernel
theorem dX6_freeDay_35 : decode cX6_freeDay 35 = .ok (.iload 4, 2) := by decide +kernel
theorem dX6_freeDay_37 : decode cX6_freeDay 37 = .ok (.ireturn, 1) := by decide +kernel
theorem dX6_freeDay_38 : decode cX6_freeDay 38 = .ok (.iinc 4 1, 3) := by decide +kernel
theorem dX6_freeDay_41 : decode cX6_freeDay 41 = .ok (.goto (-26), 3) := by decide +kernel
theorem dX6_freeDay_44 : decode cX6_freeDay 44 = .ok (.iconst (-1), 1) := by decide +kernel
theorem dX6_freeDay_45 : decode cX6_freeDay 45 = .ok (.ireturn, 1) := by decide +kernel
theorem dX6_wouldOverrun_0 : decode cX6_wouldOverrun 0 = .ok (.aload_n 0, 1) := by decide +kernel
theorem dX6_wouldOverrun_1 : decode cX6_wouldOverrun 1 = .ok (.iload_n 1, 1) := by decide +kernel
theorem dX6_wouldOverrun_2 : decode cX6_wouldOverrun 2 = .ok (.invokevirtual 181, 3) := by decide +kernel
theorem dX6_wouldOverrun_5 : decode cX6_wouldOverrun 5 = .ok (.astore_n 2, 1) := by decide +kernel
theorem dX6_wouldOverrun_6 : decode cX6_wouldOverrun 6 = .ok (.aload_n 2, 1) := by decide +kernel
theorem dX6_wouldOverrun_7 : decode cX6_wouldOverrun 7 = .ok (.invokevirtual 362, 3) := by decide +kernel
theorem dX6_wouldOverrun_10 : decode cX6_wouldOverrun 10 = .ok (.ifCond .ne 14, 3) := by decide +kernel
theorem dX6_wouldOverrun_13 : decode cX6_wouldOverrun 13 = .ok (.new 90, 3) := by decide +kernel
theorem dX6_wouldOverrun_16 : decode cX6_wouldOverrun 16 = .ok (.dup, 1) := by decide +kernel
theorem dX6_wouldOverrun_17 : decode cX6_wouldOverrun 17 = .ok (.ldc_w 366, 3) := by decide +kernel
theorem dX6_wouldOverrun_20 : decode cX6_wouldOverrun 20 = .ok (.invokespecial 94, 3) := by decide +kernel
theorem dX6_wouldOverrun_23 : decode cX6_wouldOverrun 23 = .ok (.athrow, 1) := by decide +kernel
theorem dX6_wouldOverrun_24 : decode cX6_wouldOverrun 24 = .ok (.iconst 0, 1) := by decide +kernel
theorem dX6_wouldOverrun_25 : decode cX6_wouldOverrun 25 = .ok (.aload_n 0, 1) := by decide +kernel
theorem dX6_wouldOverrun_26 : decode cX6_wouldOverrun 26 = .ok (.aload_n 2, 1) := by decide +kernel
theorem dX6_wouldOverrun_27 : decode cX6_wouldOverrun 27 = .ok (.invokevirtual 368, 3) := by decide +kernel
theorem dX6_wouldOverrun_30 : decode cX6_wouldOverrun 30 = .ok (.aload_n 2, 1) := by decide +kernel
theorem dX6_wouldOverrun_31 : decode cX6_wouldOverrun 31 = .ok (.getfield 211, 3) := by decide +kernel
theorem dX6_wouldOverrun_34 : decode cX6_wouldOverrun 34 = .ok (.isub, 1) := by decide +kernel
theorem dX6_wouldOverrun_35 : decode cX6_wouldOverrun 35 = .ok (.invokestatic 372, 3) := by decide +kernel
theorem dX6_wouldOverrun_38 : decode cX6_wouldOverrun 38 = .ok (.ireturn, 1) := by decide +kernel
theorem dX6_digest_0 : decode cX6_digest 0 = .ok (.ldc2_w 378, 3) := by decide +kernel
theorem dX6_digest_3 : decode cX6_digest 3 = .ok (.lstore_n 1, 1) := by decide +kernel
theorem dX6_digest_4 : decode cX6_digest 4 = .ok (.iconst 0, 1) := by decide +kernel
theorem dX6_digest_5 : decode cX6_digest 5 = .ok (.istore_n 3, 1) := by decide +kernel
theorem dX6_digest_6 : decode cX6_digest 6 = .ok (.iload_n 3, 1) := by decide +kernel
theorem dX6_digest_7 : decode cX6_digest 7 = .ok (.bipush 16, 2) := by decide +kernel
theorem dX6_digest_9 : decode cX6_digest 9 = .ok (.if_icmp .gt 22, 3) := by decide +kernel
theorem dX6_digest_12 : decode cX6_digest 12 = .ok (.lload_n 1, 1) := by decide +kernel
theorem dX6_digest_13 : decode cX6_digest 13 = .ok (.ldc2_w 380, 3) := by decide +kernel
theorem dX6_digest_16 : decode cX6_digest 16 = .ok (.lmul, 1) := by decide +kernel
theorem dX6_digest_17 : decode cX6_digest 17 = .ok (.aload_n 0, 1) := by decide +kernel
theorem dX6_digest_18 : decode cX6_digest 18 = .ok (.iload_n 3, 1) := by decide +kernel
theorem dX6_digest_19 : decode cX6_digest 19 = .ok (.invokevirtual 382, 3) := by decide +kernel
theorem dX6_digest_22 : decode cX6_digest 22 = .ok (.i2l, 1) := by decide +kernel
theorem dX6_digest_23 : decode cX6_digest 23 = .ok (.ladd, 1) := by decide +kernel
theorem dX6_digest_24 : decode cX6_digest 24 = .ok (.lstore_n 1, 1) := by decide +kernel
theorem dX6_digest_25 : decode cX6_digest 25 = .ok (.iinc 3 1, 3) := by decide +kernel
theorem dX6_digest_28 : decode cX6_digest 28 = .ok (.goto (-22), 3) := by decide +kernel
theorem dX6_digest_31 : decode cX6_digest 31 = .ok (.iconst 0, 1) := by decide +kernel
theorem dX6_digest_32 : decode cX6_digest 32 = .ok (.istore_n 3, 1) := by decide +kernel
theorem dX6_digest_33 : decode cX6_digest 33 = .ok (.iload_n 3, 1) := by decide +kernel
theorem dX6_digest_34 : decode cX6_digest 34 = .ok (.bipush 20, 2) := by decide +kernel
theorem dX6_digest_36 : decode cX6_digest 36 = .ok (.if_icmp .ge 16, 3) := by decide +kernel
theorem dX6_digest_39 : decode cX6_digest 39 = .ok (.aload_n 0, 1) := by decide +kernel
theorem dX6_digest_40 : decode cX6_digest 40 = .ok (.lload_n 1, 1) := by decide +kernel
theorem dX6_digest_41 : decode cX6_digest 41 = .ok (.iload_n 3, 1) := by decide +kernel
theorem dX6_digest_42 : decode cX6_digest 42 = .ok (.invokevirtual 385, 3) := by decide +kernel
theorem dX6_digest_45 : decode cX6_digest 45 = .ok (.lstore_n 1, 1) := by decide +kernel
theorem dX6_digest_46 : decode cX6_digest 46 = .ok (.iinc 3 1, 3) := by decide +kernel
theorem dX6_digest_49 : decode cX6_digest 49 = .ok (.goto (-16), 3) := by decide +kernel
theorem dX6_digest_52 : decode cX6_digest 52 = .ok (.iconst 0, 1) := by decide +kernel
theorem dX6_digest_53 : decode cX6_digest 53 = .ok (.istore_n 3, 1) := by decide +kernel
theorem dX6_digest_54 : decode cX6_digest 54 = .ok (.iload_n 3, 1) := by decide +kernel
theorem dX6_digest_55 : decode cX6_digest 55 = .ok (.aload_n 0, 1) := by decide +kernel
theorem dX6_digest_56 : decode cX6_digest 56 = .ok (.getfield 22, 3) := by decide +kernel
theorem dX6_digest_59 : decode cX6_digest 59 = .ok (.invokevirtual 104, 3) := by decide +kernel
theorem dX6_digest_62 : decode cX6_digest 62 = .ok (.if_icmp .ge 39, 3) := by decide +kernel
theorem dX6_digest_65 : decode cX6_digest 65 = .ok (.iconst 0, 1) := by decide +kernel
theorem dX6_digest_66 : decode cX6_digest 66 = .ok (.istore 4, 2) := by decide +kernel
theorem dX6_digest_68 : decode cX6_digest 68 = .ok (.iload 4, 2) := by decide +kernel
theorem dX6_digest_70 : decode cX6_digest 70 = .ok (.iconst 3, 1) := by decide +kernel
theorem dX6_digest_71 : decode cX6_digest 71 = .ok (.if_icmp .gt 24, 3) := by decide +kernel
theorem dX6_digest_74 : decode cX6_digest 74 = .ok (.lload_n 1, 1) := by decide +kernel
theorem dX6_digest_75 : decode cX6_digest 75 = .ok (.ldc2_w 380, 3) := by decide +kernel
theorem dX6_digest_78 : decode cX6_digest 78 = .ok (.lmul, 1) := by decide +kernel
theorem dX6_digest_79 : decode cX6_digest 79 = .ok (.aload_n 0, 1) := by decide +kernel
theorem dX6_digest_80 : decode cX6_digest 80 = .ok (.iload_n 3, 1) := by decide +kernel
theorem dX6_digest_81 : decode cX6_digest 81 = .ok (.iload 4, 2) := by decide +kernel
theorem dX6_digest_83 : decode cX6_digest 83 = .ok (.invokevirtual 389, 3) := by decide +kernel
theorem dX6_digest_86 : decode cX6_digest 86 = .ok (.i2l, 1) := by decide +kernel
theorem dX6_digest_87 : decode cX6_digest 87 = .ok (.ladd, 1) := by decide +kernel
theorem dX6_digest_88 : decode cX6_digest 88 = .ok (.lstore_n 1, 1) := by decide +kernel
theorem dX6_digest_89 : decode cX6_digest 89 = .ok (.iinc 4 1, 3) := by decide +kernel
theorem dX6_digest_92 : decode cX6_digest 92 = .ok (.goto (-24), 3) := by decide +kernel
theorem dX6_digest_95 : decode cX6_digest 95 = .ok (.iinc 3 1, 3) := by decide +kernel
theorem dX6_digest_98 : decode cX6_digest 98 = .ok (.goto (-44), 3) := by decide +kernel
theorem dX6_digest_101 : decode cX6_digest 101 = .ok (.iconst 0, 1) := by decide +kernel
theorem dX6_digest_102 : decode cX6_digest 102 = .ok (.istore_n 3, 1) := by decide +kernel
theorem dX6_digest_103 : decode cX6_digest 103 = .ok (.iload_n 3, 1) := by decide +kernel
theorem dX6_digest_104 : decode cX6_digest 104 = .ok (.aload_n 0, 1) := by decide +kernel
theorem dX6_digest_105 : decode cX6_digest 105 = .ok (.getfield 25, 3) := by decide +kernel
theorem dX6_digest_108 : decode cX6_digest 108 = .ok (.invokevirtual 104, 3) := by decide +kernel
theorem dX6_digest_111 : decode cX6_digest 111 = .ok (.if_icmp .ge 40, 3) := by decide +kernel
theorem dX6_digest_114 : decode cX6_digest 114 = .ok (.iconst 0, 1) := by decide +kernel
theorem dX6_digest_115 : decode cX6_digest 115 = .ok (.istore 4, 2) := by decide +kernel
theorem dX6_digest_117 : decode cX6_digest 117 = .ok (.iload 4, 2) := by decide +kernel
theorem dX6_digest_119 : decode cX6_digest 119 = .ok (.bipush 9, 2) := by decide +kernel
theorem dX6_digest_121 : decode cX6_digest 121 = .ok (.if_icmp .gt 24, 3) := by decide +kernel
theorem dX6_digest_124 : decode cX6_digest 124 = .ok (.lload_n 1, 1) := by decide +kernel
theorem dX6_digest_125 : decode cX6_digest 125 = .ok (.ldc2_w 380, 3) := by decide +kernel
theorem dX6_digest_128 : decode cX6_digest 128 = .ok (.lmul, 1) := by decide +kernel
theorem dX6_digest_129 : decode cX6_digest 129 = .ok (.aload_n 0, 1) := by decide +kernel
theorem dX6_digest_130 : decode cX6_digest 130 = .ok (.iload_n 3, 1) := by decide +kernel
theorem dX6_digest_131 : decode cX6_digest 131 = .ok (.iload 4, 2) := by decide +kernel
theorem dX6_digest_133 : decode cX6_digest 133 = .ok (.invokevirtual 392, 3) := by decide +kernel
theorem dX6_digest_136 : decode cX6_digest 136 = .ok (.i2l, 1) := by decide +kernel
theorem dX6_digest_137 : decode cX6_digest 137 = .ok (.ladd, 1) := by decide +kernel
theorem dX6_digest_138 : decode cX6_digest 138 = .ok (.lstore_n 1, 1) := by decide +kernel
theorem dX6_digest_139 : decode cX6_digest 139 = .ok (.iinc 4 1, 3) := by decide +kernel
theorem dX6_digest_142 : decode cX6_digest 142 = .ok (.goto (-25), 3) := by decide +kernel
theorem dX6_digest_145 : decode cX6_digest 145 = .ok (.iinc 3 1, 3) := by decide +kernel
theorem dX6_digest_148 : decode cX6_digest 148 = .ok (.goto (-45), 3) := by decide +kernel
theorem dX6_digest_151 : decode cX6_digest 151 = .ok (.lload_n 1, 1) := by decide +kernel
theorem dX6_digest_152 : decode cX6_digest 152 = .ok (.ldc2_w 380, 3) := by decide +kernel
theorem dX6_digest_155 : decode cX6_digest 155 = .ok (.lmul, 1) := by decide +kernel
theorem dX6_digest_156 : decode cX6_digest 156 = .ok (.aload_n 0, 1) := by decide +kernel
theorem dX6_digest_157 : decode cX6_digest 157 = .ok (.iconst 0, 1) := by decide +kernel
theorem dX6_digest_158 : decode cX6_digest 158 = .ok (.iconst 0, 1) := by decide +kernel
theorem dX6_digest_159 : decode cX6_digest 159 = .ok (.bipush 9, 2) := by decide +kernel
theorem dX6_digest_161 : decode cX6_digest 161 = .ok (.invokevirtual 395, 3) := by decide +kernel
theorem dX6_digest_164 : decode cX6_digest 164 = .ok (.i2l, 1) := by decide +kernel
theorem dX6_digest_165 : decode cX6_digest 165 = .ok (.ladd, 1) := by decide +kernel
theorem dX6_digest_166 : decode cX6_digest 166 = .ok (.lstore_n 1, 1) := by decide +kernel
theorem dX6_digest_167 : decode cX6_digest 167 = .ok (.lload_n 1, 1) := by decide +kernel
theorem dX6_digest_168 : decode cX6_digest 168 = .ok (.ldc2_w 380, 3) := by decide +kernel
theorem dX6_digest_171 : decode cX6_digest 171 = .ok (.lmul, 1) := by decide +kernel
theorem dX6_digest_172 : decode cX6_digest 172 = .ok (.aload_n 0, 1) := by decide +kernel
theorem dX6_digest_173 : decode cX6_digest 173 = .ok (.iconst 1, 1) := by decide +kernel
theorem dX6_digest_174 : decode cX6_digest 174 = .ok (.iconst 3, 1) := by decide +kernel
theorem dX6_digest_175 : decode cX6_digest 175 = .ok (.iconst 5, 1) := by decide +kernel
theorem dX6_digest_176 : decode cX6_digest 176 = .ok (.invokevirtual 395, 3) := by decide +kernel
theorem dX6_digest_179 : decode cX6_digest 179 = .ok (.i2l, 1) := by decide +kernel
theorem dX6_digest_180 : decode cX6_digest 180 = .ok (.ladd, 1) := by decide +kernel
theorem dX6_digest_181 : decode cX6_digest 181 = .ok (.lreturn, 1) := by decide +kernel
theorem dX6_digestSection_0 : decode cX6_digestSection 0 = .ok (.lload_n 1, 1) := by decide +kernel
theorem dX6_digestSection_1 : decode cX6_digestSection 1 = .ok (.lstore 4, 2) := by decide +kernel
theorem dX6_digestSection_3 : decode cX6_digestSection 3 = .ok (.iconst 0, 1) := by decide +kernel
theorem dX6_digestSection_4 : decode cX6_digestSection 4 = .ok (.istore 6, 2) := by decide +kernel
theorem dX6_digestSection_6 : decode cX6_digestSection 6 = .ok (.iload 6, 2) := by decide +kernel
theorem dX6_digestSection_8 : decode cX6_digestSection 8 = .ok (.bipush 7, 2) := by decide +kernel
theorem dX6_digestSection_10 : decode cX6_digestSection 10 = .ok (.if_icmp .gt 26, 3) := by decide +kernel
theorem dX6_digestSection_13 : decode cX6_digestSection 13 = .ok (.lload 4, 2) := by decide +kernel
theorem dX6_digestSection_15 : decode cX6_digestSection 15 = .ok (.ldc2_w 380, 3) := by decide +kernel
theorem dX6_digestSection_18 : decode cX6_digestSection 18 = .ok (.lmul, 1) := by decide +kernel
theorem dX6_digestSection_19 : decode cX6_digestSection 19 = .ok (.aload_n 0, 1) := by decide +kernel
theorem dX6_digestSection_20 : decode cX6_digestSection 20 = .ok (.iload_n 3, 1) := by decide +kernel
theorem dX6_digestSection_21 : decode cX6_digestSection 21 = .ok (.iload 6, 2) := by decide +kernel
theorem dX6_digestSection_23 : decode cX6_digestSection 23 = .ok (.invokevirtual 399, 3) := by decide +kernel
theorem dX6_digestSection_26 : decode cX6_digestSection 26 = .ok (.i2l, 1) := by decide +kernel
theorem dX6_digestSection_27 : decode cX6_digestSection 27 = .ok (.ladd, 1) := by decide +kernel
theorem dX6_digestSection_28 : decode cX6_digestSection 28 = .ok (.lstore 4, 2) := by decide +kernel
theorem dX6_digestSection_30 : decode cX6_digestSection 30 = .ok (.iinc 6 1, 3) := by decide +kernel
theorem dX6_digestSection_33 : decode cX6_digestSection 33 = .ok (.goto (-27), 3) := by decide +kernel
theorem dX6_digestSection_36 : decode cX6_digestSection 36 = .ok (.iconst 0, 1) := by decide +kernel
theorem dX6_digestSection_37 : decode cX6_digestSection 37 = .ok (.istore 6, 2) := by decide +kernel
theorem dX6_digestSection_39 : decode cX6_digestSection 39 = .ok (.iload 6, 2) := by decide +kernel
theorem dX6_digestSection_41 : decode cX6_digestSection 41 = .ok (.iconst 4, 1) := by decide +kernel
theorem dX6_digestSection_42 : decode cX6_digestSection 42 = .ok (.if_icmp .gt 26, 3) := by decide +kernel
theorem dX6_digestSection_45 : decode cX6_digestSection 45 = .ok (.lload 4, 2) := by decide +kernel
theorem dX6_digestSection_47 : decode cX6_digestSection 47 = .ok (.ldc2_w 380, 3) := by decide +kernel
theorem dX6_digestSection_50 : decode cX6_digestSection 50 = .ok (.lmul, 1) := by decide +kernel
theorem dX6_digestSection_51 : decode cX6_digestSection 51 = .ok (.aload_n 0, 1) := by decide +kernel
theorem dX6_digestSection_52 : decode cX6_digestSection 52 = .ok (.iload_n 3, 1) := by decide +kernel
theorem dX6_digestSection_53 : decode cX6_digestSection 53 = .ok (.iload 6, 2) := by decide +kernel
theorem dX6_digestSection_55 : decode cX6_digestSection 55 = .ok (.invokevirtual 402, 3) := by decide +kernel
theorem dX6_digestSection_58 : decode cX6_digestSection 58 = .ok (.i2l, 1) := by decide +kernel
theorem dX6_digestSection_59 : decode cX6_digestSection 59 = .ok (.ladd, 1) := by decide +kernel
theorem dX6_digestSection_60 : decode cX6_digestSection 60 = .ok (.lstore 4, 2) := by decide +kernel
theorem dX6_digestSection_62 : decode cX6_digestSection 62 = .ok (.iinc 6 1, 3) := by decide +kernel
theorem dX6_digestSection_65 : decode cX6_digestSection 65 = .ok (.goto (-26), 3) := by decide +kernel
theorem dX6_digestSection_68 : decode cX6_digestSection 68 = .ok (.lload 4, 2) := by decide +kernel
theorem dX6_digestSection_70 : decode cX6_digestSection 70 = .ok (.ldc2_w 380, 3) := by decide +kernel
theorem dX6_digestSection_73 : decode cX6_digestSection 73 = .ok (.lmul, 1) := by decide +kernel
theorem dX6_digestSection_74 : decode cX6_digestSection 74 = .ok (.aload_n 0, 1) := by decide +kernel
theorem dX6_digestSection_75 : decode cX6_digestSection 75 = .ok (.iload_n 3, 1) := by decide +kernel
theorem dX6_digestSection_76 : decode cX6_digestSection 76 = .ok (.iconst 0, 1) := by decide +kernel
theorem dX6_digestSection_77 : decode cX6_digestSection 77 = .ok (.invokevirtual 405, 3) := by decide +kernel
theorem dX6_digestSection_80 : decode cX6_digestSection 80 = .ok (.i2l, 1) := by decide +kernel
theorem dX6_digestSection_81 : decode cX6_digestSection 81 = .ok (.ladd, 1) := by decide +kernel
theorem dX6_digestSection_82 : decode cX6_digestSection 82 = .ok (.lstore 4, 2) := by decide +kernel
theorem dX6_digestSection_84 : decode cX6_digestSection 84 = .ok (.lload 4, 2) := by decide +kernel
theorem dX6_digestSection_86 : decode cX6_digestSection 86 = .ok (.ldc2_w 380, 3) := by decide +kernel
theorem dX6_digestSection_89 : decode cX6_digestSection 89 = .ok (.lmul, 1) := by decide +kernel
theorem dX6_digestSection_90 : decode cX6_digestSection 90 = .ok (.aload_n 0, 1) := by decide +kernel
theorem dX6_digestSection_91 : decode cX6_digestSection 91 = .ok (.iload_n 3, 1) := by decide +kernel
theorem dX6_digestSection_92 : decode cX6_digestSection 92 = .ok (.iconst 1, 1) := by decide +kernel
theorem dX6_digestSection_93 : decode cX6_digestSection 93 = .ok (.invokevirtual 405, 3) := by decide +kernel
theorem dX6_digestSection_96 : decode cX6_digestSection 96 = .ok (.i2l, 1) := by decide +kernel
theorem dX6_digestSection_97 : decode cX6_digestSection 97 = .ok (.ladd, 1) := by decide +kernel
theorem dX6_digestSection_98 : decode cX6_digestSection 98 = .ok (.lstore 4, 2) := by decide +kernel
theorem dX6_digestSection_100 : decode cX6_digestSection 100 = .ok (.lload 4, 2) := by decide +kernel
theorem dX6_digestSection_102 : decode cX6_digestSection 102 = .ok (.ldc2_w 380, 3) := by decide +kernel
theorem dX6_digestSection_105 : decode cX6_digestSection 105 = .ok (.lmul, 1) := by decide +kernel
theorem dX6_digestSection_106 : decode cX6_digestSection 106 = .ok (.aload_n 0, 1) := by decide +kernel
theorem dX6_digestSection_107 : decode cX6_digestSection 107 = .ok (.iload_n 3, 1) := by decide +kernel
theorem dX6_digestSection_108 : decode cX6_digestSection 108 = .ok (.invokevirtual 409, 3) := by decide +kernel
theorem dX6_digestSection_111 : decode cX6_digestSection 111 = .ok (.i2l, 1) := by decide +kernel
theorem dX6_digestSection_112 : decode cX6_digestSection 112 = .ok (.ladd, 1) := by decide +kernel
theorem dX6_digestSection_113 : decode cX6_digestSection 113 = .ok (.lstore 4, 2) := by decide +kernel
theorem dX6_digestSection_115 : decode cX6_digestSection 115 = .ok (.lload 4, 2) := by decide +kernel
theorem dX6_digestSection_117 : decode cX6_digestSection 117 = .ok (.ldc2_w 380, 3) := by decide +kernel
theorem dX6_digestSection_120 : decode cX6_digestSection 120 = .ok (.lmul, 1) := by decide +kernel
theorem dX6_digestSection_121 : decode cX6_digestSection 121 = .ok (.aload_n 0, 1) := by decide +kernel
theorem dX6_digestSection_122 : decode cX6_digestSection 122 = .ok (.iload_n 3, 1) := by decide +kernel
theorem dX6_digestSection_123 : decode cX6_digestSection 123 = .ok (.bipush 20, 2) := by decide +kernel
theorem dX6_digestSection_125 : decode cX6_digestSection 125 = .ok (.invokevirtual 412, 3) := by decide +kernel
theorem dX6_digestSection_128 : decode cX6_digestSection 128 = .ok (.i2l, 1) := by decide +kernel
theorem dX6_digestSection_129 : decode cX6_digestSection 129 = .ok (.ladd, 1) := by decide +kernel
theorem dX6_digestSection_130 : decode cX6_digestSection 130 = .ok (.lstore 4, 2) := by decide +kernel
theorem dX6_digestSection_132 : decode cX6_digestSection 132 = .ok (.lload 4, 2) := by decide +kernel
theorem dX6_digestSection_134 : decode cX6_digestSection 134 = .ok (.ldc2_w 380, 3) := by decide +kernel
theorem dX6_digestSection_137 : decode cX6_digestSection 137 = .ok (.lmul, 1) := by decide +kernel
theorem dX6_digestSection_138 : decode cX6_digestSection 138 = .ok (.aload_n 0, 1) := by decide +kernel
theorem dX6_digestSection_139 : decode cX6_digestSection 139 = .ok (.iload_n 3, 1) := by decide +kernel
theorem dX6_digestSection_140 : decode cX6_digestSection 140 = .ok (.bipush 20, 2) := by decide +kernel
theorem dX6_digestSection_142 : decode cX6_digestSection 142 = .ok (.bipush 30, 2) := by decide +kernel
theorem dX6_digestSection_144 : decode cX6_digestSection 144 = .ok (.invokevirtual 415, 3) := by decide +kernel
theorem dX6_digestSection_147 : decode cX6_digestSection 147 = .ok (.i2l, 1) := by decide +kernel
theorem dX6_digestSection_148 : decode cX6_digestSection 148 = .ok (.ladd, 1) := by decide +kernel
theorem dX6_digestSection_149 : decode cX6_digestSection 149 = .ok (.lreturn, 1) := by decide +kernel
theorem dX6_checkSection_0 : decode cX6_checkSection 0 = .ok (.iload_n 1, 1) := by decide +kernel
theorem dX6_checkSection_1 : decode cX6_checkSection 1 = .ok (.ifCond .lt 9, 3) := by decide +kernel
theorem dX6_checkSection_4 : decode cX6_checkSection 4 = .ok (.iload_n 1, 1) := by decide +kernel
theorem dX6_checkSection_5 : decode cX6_checkSection 5 = .ok (.bipush 20, 2) := by decide +kernel
theorem dX6_checkSection_7 : decode cX6_checkSection 7 = .ok (.if_icmp .lt 14, 3) := by decide +kernel
theorem dX6_checkSection_10 : decode cX6_checkSection 10 = .ok (.new 125, 3) := by decide +kernel
theorem dX6_checkSection_13 : decode cX6_checkSection 13 = .ok (.dup, 1) := by decide +kernel
theorem dX6_checkSection_14 : decode cX6_checkSection 14 = .ok (.ldc_w 418, 3) := by decide +kernel
theorem dX6_checkSection_17 : decode cX6_checkSection 17 = .ok (.invokespecial 129, 3) := by decide +kernel
theorem dX6_checkSection_20 : decode cX6_checkSection 20 = .ok (.athrow, 1) := by decide +kernel
theorem dX6_checkSection_21 : decode cX6_checkSection 21 = .ok (.return_, 1) := by decide +kernel
theorem dX6_sectionAt_0 : decode cX6_sectionAt 0 = .ok (.aload_n 0, 1) := by decide +kernel
theorem dX6_sectionAt_1 : decode cX6_sectionAt 1 = .ok (.iload_n 1, 1) := by decide +kernel
theorem dX6_sectionAt_2 : decode cX6_sectionAt 2 = .ok (.invokevirtual 340, 3) := by decide +kernel
theorem dX6_sectionAt_5 : decode cX6_sectionAt 5 = .ok (.aload_n 0, 1) := by decide +kernel
theorem dX6_sectionAt_6 : decode cX6_sectionAt 6 = .ok (.getfield 11, 3) := by decide +kernel
theorem dX6_sectionAt_9 : decode cX6_sectionAt 9 = .ok (.iload_n 1, 1) := by decide +kernel
theorem dX6_sectionAt_10 : decode cX6_sectionAt 10 = .ok (.aaload, 1) := by decide +kernel
theorem dX6_sectionAt_11 : decode cX6_sectionAt 11 = .ok (.areturn, 1) := by decide +kernel
theorem dX6_machineAt_0 : decode cX6_machineAt 0 = .ok (.iload_n 1, 1) := by decide +kernel
theorem dX6_machineAt_1 : decode cX6_machineAt 1 = .ok (.ifCond .lt 14, 3) := by decide +kernel
theorem dX6_machineAt_4 : decode cX6_machineAt 4 = .ok (.iload_n 1, 1) := by decide +kernel
theorem dX6_machineAt_5 : decode cX6_machineAt 5 = .ok (.aload_n 0, 1) := by decide +kernel
theorem dX6_machineAt_6 : decode cX6_machineAt 6 = .ok (.getfield 22, 3) := by decide +kernel
theorem dX6_machineAt_9 : decode cX6_machineAt 9 = .ok (.invokevirtual 104, 3) := by decide +kernel
theorem dX6_machineAt_12 : decode cX6_machineAt 12 = .ok (.if_icmp .lt 14, 3) := by decide +kernel
theorem dX6_machineAt_15 : decode cX6_machineAt 15 = .ok (.new 125, 3) := by decide +kernel
theorem dX6_machineAt_18 : decode cX6_machineAt 18 = .ok (.dup, 1) := by decide +kernel
theorem dX6_machineAt_19 : decode cX6_machineAt 19 = .ok (.ldc_w 420, 3) := by decide +kernel
theorem dX6_machineAt_22 : decode cX6_machineAt 22 = .ok (.invokespecial 129, 3) := by decide +kernel
theorem dX6_machineAt_25 : decode cX6_machineAt 25 = .ok (.athrow, 1) := by decide +kernel
theorem dX6_machineAt_26 : decode cX6_machineAt 26 = .ok (.aload_n 0, 1) := by decide +kernel
theorem dX6_machineAt_27 : decode cX6_machineAt 27 = .ok (.getfield 22, 3) := by decide +kernel
theorem dX6_machineAt_30 : decode cX6_machineAt 30 = .ok (.iload_n 1, 1) := by decide +kernel
theorem dX6_machineAt_31 : decode cX6_machineAt 31 = .ok (.invokevirtual 130, 3) := by decide +kernel
theorem dX6_machineAt_34 : decode cX6_machineAt 34 = .ok (.checkcast 148, 3) := by decide +kernel
theorem dX6_machineAt_37 : decode cX6_machineAt 37 = .ok (.areturn, 1) := by decide +kernel
theorem dX6_possessionAt_0 : decode cX6_possessionAt 0 = .ok (.iload_n 1, 1) := by decide +kernel
theorem dX6_possessionAt_1 : decode cX6_possessionAt 1 = .ok (.ifCond .lt 14, 3) := by decide +kernel
theorem dX6_possessionAt_4 : decode cX6_possessionAt 4 = .ok (.iload_n 1, 1) := by decide +kernel
theorem dX6_possessionAt_5 : decode cX6_possessionAt 5 = .ok (.aload_n 0, 1) := by decide +kernel
theorem dX6_possessionAt_6 : decode cX6_possessionAt 6 = .ok (.getfield 25, 3) := by decide +kernel
theorem dX6_possessionAt_9 : decode cX6_possessionAt 9 = .ok (.invokevirtual 104, 3) := by decide +kernel
theorem dX6_possessionAt_12 : decode cX6_possessionAt 12 = .ok (.if_icmp .lt 14, 3) := by decide +kernel
theorem dX6_possessionAt_15 : decode cX6_possessionAt 15 = .ok (.new 125, 3) := by decide +kernel
theorem dX6_possessionAt_18 : decode cX6_possessionAt 18 = .ok (.dup, 1) := by decide +kernel
theorem dX6_possessionAt_19 : decode cX6_possessionAt 19 = .ok (.ldc_w 422, 3) := by decide +kernel
theorem dX6_possessionAt_22 : decode cX6_possessionAt 22 = .ok (.invokespecial 129, 3) := by decide +kernel
theorem dX6_possessionAt_25 : decode cX6_possessionAt 25 = .ok (.athrow, 1) := by decide +kernel
theorem dX6_possessionAt_26 : decode cX6_possessionAt 26 = .ok (.aload_n 0, 1) := by decide +kernel
theorem dX6_possessionAt_27 : decode cX6_possessionAt 27 = .ok (.getfield 25, 3) := by decide +kernel
theorem dX6_possessionAt_30 : decode cX6_possessionAt 30 = .ok (.iload_n 1, 1) := by decide +kernel
theorem dX6_possessionAt_31 : decode cX6_possessionAt 31 = .ok (.invokevirtual 130, 3) := by decide +kernel
theorem dX6_possessionAt_34 : decode cX6_possessionAt 34 = .ok (.checkcast 176, 3) := by decide +kernel
theorem dX6_possessionAt_37 : decode cX6_possessionAt 37 = .ok (.areturn, 1) := by decide +kernel
theorem dX6_checkStretch_0 : decode cX6_checkStretch 0 = .ok (.iload_n 1, 1) := by decide +kernel
theorem dX6_checkStretch_1 : decode cX6_checkStretch 1 = .ok (.ifCond .lt 8, 3) := by decide +kernel
theorem dX6_checkStretch_4 : decode cX6_checkStretch 4 = .ok (.iload_n 1, 1) := by decide +kernel
theorem dX6_checkStretch_5 : decode cX6_checkStretch 5 = .ok (.iconst 2, 1) := by decide +kernel
theorem dX6_checkStretch_6 : decode cX6_checkStretch 6 = .ok (.if_icmp .lt 14, 3) := by decide +kernel
theorem dX6_checkStretch_9 : decode cX6_checkStretch 9 = .ok (.new 125, 3) := by decide +kernel
theorem dX6_checkStretch_12 : decode cX6_checkStretch 12 = .ok (.dup, 1) := by decide +kernel
theorem dX6_checkStretch_13 : decode cX6_checkStretch 13 = .ok (.ldc_w 336, 3) := by decide +kernel
theorem dX6_checkStretch_16 : decode cX6_checkStretch 16 = .ok (.invokespecial 129, 3) := by decide +kernel
theorem dX6_checkStretch_19 : decode cX6_checkStretch 19 = .ok (.athrow, 1) := by decide +kernel
theorem dX6_checkStretch_20 : decode cX6_checkStretch 20 = .ok (.iload_n 2, 1) := by decide +kernel
theorem dX6_checkStretch_21 : decode cX6_checkStretch 21 = .ok (.ifCond .lt 19, 3) := by decide +kernel
theorem dX6_checkStretch_24 : decode cX6_checkStretch 24 = .ok (.iload_n 2, 1) := by decide +kernel
theorem dX6_checkStretch_25 : decode cX6_checkStretch 25 = .ok (.bipush 10, 2) := by decide +kernel
theorem dX6_checkStretch_27 : decode cX6_checkStretch 27 = .ok (.if_icmp .ge 13, 3) := by decide +kernel
theorem dX6_checkStretch_30 : decode cX6_checkStretch 30 = .ok (.iload_n 3, 1) := by decide +kernel
theorem dX6_checkStretch_31 : decode cX6_checkStretch 31 = .ok (.ifCond .lt 9, 3) := by decide +kernel
theorem dX6_checkStretch_34 : decode cX6_checkStretch 34 = .ok (.iload_n 3, 1) := by decide +kernel
theorem dX6_checkStretch_35 : decode cX6_checkStretch 35 = .ok (.bipush 10, 2) := by decide +kernel
theorem dX6_checkStretch_37 : decode cX6_checkStretch 37 = .ok (.if_icmp .lt 14, 3) := by decide +kernel
theorem dX6_checkStretch_40 : decode cX6_checkStretch 40 = .ok (.new 125, 3) := by decide +kernel
theorem dX6_checkStretch_43 : decode cX6_checkStretch 43 = .ok (.dup, 1) := by decide +kernel
theorem dX6_checkStretch_44 : decode cX6_checkStretch 44 = .ok (.ldc_w 424, 3) := by decide +kernel
theorem dX6_checkStretch_47 : decode cX6_checkStretch 47 = .ok (.invokespecial 129, 3) := by decide +kernel
theorem dX6_checkStretch_50 : decode cX6_checkStretch 50 = .ok (.athrow, 1) := by decide +kernel
theorem dX6_checkStretch_51 : decode cX6_checkStretch 51 = .ok (.iload_n 3, 1) := by decide +kernel
theorem dX6_checkStretch_52 : decode cX6_checkStretch 52 = .ok (.iload_n 2, 1) := by decide +kernel
theorem dX6_checkStretch_53 : decode cX6_checkStretch 53 = .ok (.if_icmp .ge 14, 3) := by decide +kernel
theorem dX6_checkStretch_56 : decode cX6_checkStretch 56 = .ok (.new 72, 3) := by decide +kernel
theorem dX6_checkStretch_59 : decode cX6_checkStretch 59 = .ok (.dup, 1) := by decide +kernel
theorem dX6_checkStretch_60 : decode cX6_checkStretch 60 = .ok (.ldc_w 426, 3) := by decide +kernel
theorem dX6_checkStretch_63 : decode cX6_checkStretch 63 = .ok (.invokespecial 76, 3) := by decide +kernel
theorem dX6_checkStretch_66 : decode cX6_checkStretch 66 = .ok (.athrow, 1) := by decide +kernel
