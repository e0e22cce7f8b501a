theorem dX0_init_0 : decode cX0_init 0 = .ok (.aload_n 0, 1) := by decide +kernel
theorem dX0_init_1 : decode cX0_init 1 = .ok (.invokespecial 1, 3) := by decide +kernel
theorem dX0_init_4 : decode cX0_init 4 = .ok (.aload_n 0, 1) := by decide +kernel
theorem dX0_init_5 : decode cX0_init 5 = .ok (.iconst 0, 1) := by decide +kernel
theorem dX0_init_6 : decode cX0_init 6 = .ok (.putfield 7, 3) := by decide +kernel
theorem dX0_init_9 : decode cX0_init 9 = .ok (.aload_n 0, 1) := by decide +kernel
theorem dX0_init_10 : decode cX0_init 10 = .ok (.iconst 0, 1) := by decide +kernel
theorem dX0_init_11 : decode cX0_init 11 = .ok (.putfield 13, 3) := by decide +kernel
theorem dX0_init_14 : decode cX0_init 14 = .ok (.aload_n 0, 1) := by decide +kernel
theorem dX0_init_15 : decode cX0_init 15 = .ok (.iload_n 1, 1) := by decide +kernel
theorem dX0_init_16 : decode cX0_init 16 = .ok (.putfield 16, 3) := by decide +kernel
theorem dX0_init_19 : decode cX0_init 19 = .ok (.aload_n 0, 1) := by decide +kernel
theorem dX0_init_20 : decode cX0_init 20 = .ok (.iload_n 2, 1) := by decide +kernel
theorem dX0_init_21 : decode cX0_init 21 = .ok (.putfield 19, 3) := by decide +kernel
theorem dX0_init_24 : decode cX0_init 24 = .ok (.return_, 1) := by decide +kernel
theorem dX1_init_0 : decode cX1_init 0 = .ok (.aload_n 0, 1) := by decide +kernel
theorem dX1_init_1 : decode cX1_init 1 = .ok (.invokespecial 3, 3) := by decide +kernel
theorem dX1_init_4 : decode cX1_init 4 = .ok (.aload_n 0, 1) := by decide +kernel
theorem dX1_init_5 : decode cX1_init 5 = .ok (.iconst 0, 1) := by decide +kernel
theorem dX1_init_6 : decode cX1_init 6 = .ok (.putfield 9, 3) := by decide +kernel
theorem dX1_init_9 : decode cX1_init 9 = .ok (.aload_n 0, 1) := by decide +kernel
theorem dX1_init_10 : decode cX1_init 10 = .ok (.bipush 10, 2) := by decide +kernel
theorem dX1_init_12 : decode cX1_init 12 = .ok (.anewarray 15, 3) := by decide +kernel
theorem dX1_init_15 : decode cX1_init 15 = .ok (.putfield 17, 3) := by decide +kernel
theorem dX1_init_18 : decode cX1_init 18 = .ok (.aload_n 0, 1) := by decide +kernel
theorem dX1_init_19 : decode cX1_init 19 = .ok (.iload_n 1, 1) := by decide +kernel
theorem dX1_init_20 : decode cX1_init 20 = .ok (.putfield 21, 3) := by decide +kernel
theorem dX1_init_23 : decode cX1_init 23 = .ok (.aload_n 0, 1) := by decide +kernel
theorem dX1_init_24 : decode cX1_init 24 = .ok (.iload_n 2, 1) := by decide +kernel
theorem dX1_init_25 : decode cX1_init 25 = .ok (.putfield 25, 3) := by decide +kernel
theorem dX1_init_28 : decode cX1_init 28 = .ok (.return_, 1) := by decide +kernel
theorem dX1_write_0 : decode cX1_write 0 = .ok (.iload_n 1, 1) := by decide +kernel
theorem dX1_write_1 : decode cX1_write 1 = .ok (.ifCond .lt 48, 3) := by decide +kernel
theorem dX1_write_4 : decode cX1_write 4 = .ok (.iload_n 1, 1) := by decide +kernel
theorem dX1_write_5 : decode cX1_write 5 = .ok (.bipush 10, 2) := by decide +kernel
theorem dX1_write_7 : decode cX1_write 7 = .ok (.if_icmp .ge 42, 3) := by decide +kernel
theorem dX1_write_10 : decode cX1_write 10 = .ok (.aload_n 2, 1) := by decide +kernel
theorem dX1_write_11 : decode cX1_write 11 = .ok (.getfield 28, 3) := by decide +kernel
theorem dX1_write_14 : decode cX1_write 14 = .ok (.iconst 5, 1) := by decide +kernel
theorem dX1_write_15 : decode cX1_write 15 = .ok (.if_icmp .ge 7, 3) := by decide +kernel
theorem dX1_write_18 : decode cX1_write 18 = .ok (.iconst 0, 1) := by decide +kernel
theorem dX1_write_19 : decode cX1_write 19 = .ok (.goto 7, 3) := by decide +kernel
theorem dX1_write_22 : decode cX1_write 22 = .ok (.aload_n 2, 1) := by decide +kernel
theorem dX1_write_23 : decode cX1_write 23 = .ok (.getfield 28, 3) := by decide +kernel
theorem dX1_write_26 : decode cX1_write 26 = .ok (.istore_n 3, 1) := by decide +kernel
theorem dX1_write_27 : decode cX1_write 27 = .ok (.aload_n 0, 1) := by decide +kernel
theorem dX1_write_28 : decode cX1_write 28 = .ok (.getfield 17, 3) := by decide +kernel
theorem dX1_write_31 : decode cX1_write 31 = .ok (.iload_n 1, 1) := by decide +kernel
theorem dX1_write_32 : decode cX1_write 32 = .ok (.new 15, 3) := by decide +kernel
theorem dX1_write_35 : decode cX1_write 35 = .ok (.dup, 1) := by decide +kernel
theorem dX1_write_36 : decode cX1_write 36 = .ok (.aload_n 2, 1) := by decide +kernel
theorem dX1_write_37 : decode cX1_write 37 = .ok (.getfield 31, 3) := by decide +kernel
theorem dX1_write_40 : decode cX1_write 40 = .ok (.iload_n 3, 1) := by decide +kernel
theorem dX1_write_41 : decode cX1_write 41 = .ok (.aload_n 2, 1) := by decide +kernel
theorem dX1_write_42 : decode cX1_write 42 = .ok (.getfield 34, 3) := by decide +kernel
theorem dX1_write_45 : decode cX1_write 45 = .ok (.invokespecial 37, 3) := by decide +kernel
theorem dX1_write_48 : decode cX1_write 48 = .ok (.aastore, 1) := by decide +kernel
theorem dX1_write_49 : decode cX1_write 49 = .ok (.return_, 1) := by decide +kernel
theorem dX1_says_0 : decode cX1_says 0 = .ok (.aload_n 0, 1) := by decide +kernel
theorem dX1_says_1 : decode cX1_says 1 = .ok (.iload_n 1, 1) := by decide +kernel
theorem dX1_says_2 : decode cX1_says 2 = .ok (.aload_n 0, 1) := by decide +kernel
theorem dX1_says_3 : decode cX1_says 3 = .ok (.getfield 9, 3) := by decide +kernel
theorem dX1_says_6 : decode cX1_says 6 = .ok (.ifCond .eq 10, 3) := by decide +kernel
theorem dX1_says_9 : decode cX1_says 9 = .ok (.aload_n 0, 1) := by decide +kernel
theorem dX1_says_10 : decode cX1_says 10 = .ok (.getfield 25, 3) := by decide +kernel
theorem dX1_says_13 : decode cX1_says 13 = .ok (.goto 4, 3) := by decide +kernel
theorem dX1_says_16 : decode cX1_says 16 = .ok (.iconst 0, 1) := by decide +kernel
theorem dX1_says_17 : decode cX1_says 17 = .ok (.invokevirtual 40, 3) := by decide +kernel
theorem dX1_says_20 : decode cX1_says 20 = .ok (.areturn, 1) := by decide +kernel
theorem dX1_writtenOf_0 : decode cX1_writtenOf 0 = .ok (.aload_n 0, 1) := by decide +kernel
theorem dX1_writtenOf_1 : decode cX1_writtenOf 1 = .ok (.iload_n 1, 1) := by decide +kernel
theorem dX1_writtenOf_2 : decode cX1_writtenOf 2 = .ok (.aload_n 0, 1) := by decide +kernel
theorem dX1_writtenOf_3 : decode cX1_writtenOf 3 = .ok (.getfield 25, 3) := by decide +kernel
theorem dX1_writtenOf_6 : decode cX1_writtenOf 6 = .ok (.invokevirtual 40, 3) := by decide +kernel
theorem dX1_writtenOf_9 : decode cX1_writtenOf 9 = .ok (.areturn, 1) := by decide +kernel
theorem dX1_writtenFor_0 : decode cX1_writtenFor 0 = .ok (.iload_n 1, 1) := by decide +kernel
theorem dX1_writtenFor_1 : decode cX1_writtenFor 1 = .ok (.bipush 10, 2) := by decide +kernel
theorem dX1_writtenFor_3 : decode cX1_writtenFor 3 = .ok (.irem, 1) := by decide +kernel
theorem dX1_writtenFor_4 : decode cX1_writtenFor 4 = .ok (.iload_n 2, 1) := by decide +kernel
theorem dX1_writtenFor_5 : decode cX1_writtenFor 5 = .ok (.isub, 1) := by decide +kernel
theorem dX1_writtenFor_6 : decode cX1_writtenFor 6 = .ok (.istore_n 3, 1) := by decide +kernel
theorem dX1_writtenFor_7 : decode cX1_writtenFor 7 = .ok (.iload_n 1, 1) := by decide +kernel
theorem dX1_writtenFor_8 : decode cX1_writtenFor 8 = .ok (.bipush 10, 2) := by decide +kernel
theorem dX1_writtenFor_10 : decode cX1_writtenFor 10 = .ok (.idiv, 1) := by decide +kernel
theorem dX1_writtenFor_11 : decode cX1_writtenFor 11 = .ok (.aload_n 0, 1) := by decide +kernel
theorem dX1_writtenFor_12 : decode cX1_writtenFor 12 = .ok (.getfield 21, 3) := by decide +kernel
theorem dX1_writtenFor_15 : decode cX1_writtenFor 15 = .ok (.if_icmp .ne 13, 3) := by decide +kernel
theorem dX1_writtenFor_18 : decode cX1_writtenFor 18 = .ok (.iload_n 3, 1) := by decide +kernel
theorem dX1_writtenFor_19 : decode cX1_writtenFor 19 = .ok (.ifCond .lt 9, 3) := by decide +kernel
theorem dX1_writtenFor_22 : decode cX1_writtenFor 22 = .ok (.iload_n 3, 1) := by decide +kernel
theorem dX1_writtenFor_23 : decode cX1_writtenFor 23 = .ok (.bipush 10, 2) := by decide +kernel
theorem dX1_writtenFor_25 : decode cX1_writtenFor 25 = .ok (.if_icmp .lt 5, 3) := by decide +kernel
theorem dX1_writtenFor_28 : decode cX1_writtenFor 28 = .ok (.aconst_null, 1) := by decide +kernel
theorem dX1_writtenFor_29 : decode cX1_writtenFor 29 = .ok (.areturn, 1) := by decide +kernel
theorem dX1_writtenFor_30 : decode cX1_writtenFor 30 = .ok (.aload_n 0, 1) := by decide +kernel
theorem dX1_writtenFor_31 : decode cX1_writtenFor 31 = .ok (.getfield 17, 3) := by decide +kernel
theorem dX1_writtenFor_34 : decode cX1_writtenFor 34 = .ok (.iload_n 3, 1) := by decide +kernel
theorem dX1_writtenFor_35 : decode cX1_writtenFor 35 = .ok (.aaload, 1) := by decide +kernel
theorem dX1_writtenFor_36 : decode cX1_writtenFor 36 = .ok (.areturn, 1) := by decide +kernel
theorem dX2_init_0 : decode cX2_init 0 = .ok (.aload_n 0, 1) := by decide +kernel
theorem dX2_init_1 : decode cX2_init 1 = .ok (.invokespecial 3, 3) := by decide +kernel
theorem dX2_init_4 : decode cX2_init 4 = .ok (.aload_n 0, 1) := by decide +kernel
theorem dX2_init_5 : decode cX2_init 5 = .ok (.new 9, 3) := by decide +kernel
theorem dX2_init_8 : decode cX2_init 8 = .ok (.dup, 1) := by decide +kernel
theorem dX2_init_9 : decode cX2_init 9 = .ok (.invokespecial 11, 3) := by decide +kernel
theorem dX2_init_12 : decode cX2_init 12 = .ok (.putfield 12, 3) := by decide +kernel
theorem dX2_init_15 : decode cX2_init 15 = .ok (.aload_n 0, 1) := by decide +kernel
theorem dX2_init_16 : decode cX2_init 16 = .ok (.iconst 0, 1) := by decide +kernel
theorem dX2_init_17 : decode cX2_init 17 = .ok (.putfield 18, 3) := by decide +kernel
theorem dX2_init_20 : decode cX2_init 20 = .ok (.aload_n 0, 1) := by decide +kernel
theorem dX2_init_21 : decode cX2_init 21 = .ok (.iconst 0, 1) := by decide +kernel
theorem dX2_init_22 : decode cX2_init 22 = .ok (.putfield 22, 3) := by decide +kernel
theorem dX2_init_25 : decode cX2_init 25 = .ok (.aload_n 0, 1) := by decide +kernel
theorem dX2_init_26 : decode cX2_init 26 = .ok (.iconst 0, 1) := by decide +kernel
theorem dX2_init_27 : decode cX2_init 27 = .ok (.putfield 26, 3) := by decide +kernel
theorem dX2_init_30 : decode cX2_init 30 = .ok (.aload_n 0, 1) := by decide +kernel
theorem dX2_init_31 : decode cX2_init 31 = .ok (.iconst 0, 1) := by decide +kernel
theorem dX2_init_32 : decode cX2_init 32 = .ok (.putfield 29, 3) := by decide +kernel
theorem dX2_init_35 : decode cX2_init 35 = .ok (.aload_n 0, 1) := by decide +kernel
theorem dX2_init_36 : decode cX2_init 36 = .ok (.iload_n 1, 1) := by decide +kernel
theorem dX2_init_37 : decode cX2_init 37 = .ok (.putfield 32, 3) := by decide +kernel
theorem dX2_init_40 : decode cX2_init 40 = .ok (.aload_n 0, 1) := by decide +kernel
theorem dX2_init_41 : decode cX2_init 41 = .ok (.iload_n 2, 1) := by decide +kernel
theorem dX2_init_42 : decode cX2_init 42 = .ok (.putfield 35, 3) := by decide +kernel
theorem dX2_init_45 : decode cX2_init 45 = .ok (.aload_n 0, 1) := by decide +kernel
theorem dX2_init_46 : decode cX2_init 46 = .ok (.iload_n 3, 1) := by decide +kernel
theorem dX2_init_47 : decode cX2_init 47 = .ok (.putfield 38, 3) := by decide +kernel
theorem dX2_init_50 : decode cX2_init 50 = .ok (.aload_n 0, 1) := by decide +kernel
theorem dX2_init_51 : decode cX2_init 51 = .ok (.iload 4, 2) := by decide +kernel
theorem dX2_init_53 : decode cX2_init 53 = .ok (.putfield 41, 3) := by decide +kernel
theorem dX2_init_56 : decode cX2_init 56 = .ok (.aload_n 0, 1) := by decide +kernel
theorem dX2_init_57 : decode cX2_init 57 = .ok (.iload 5, 2) := by decide +kernel
theorem dX2_init_59 : decode cX2_init 59 = .ok (.putfield 44, 3) := by decide +kernel
theorem dX2_init_62 : decode cX2_init 62 = .ok (.return_, 1) := by decide +kernel
theorem dX2_has_0 : decode cX2_has 0 = .ok (.iload_n 1, 1) := by decide +kernel
theorem dX2_has_1 : decode cX2_has 1 = .ok (.bipush 10, 2) := by decide +kernel
theorem dX2_has_3 : decode cX2_has 3 = .ok (.irem, 1) := by decide +kernel
theorem dX2_has_4 : decode cX2_has 4 = .ok (.istore_n 2, 1) := by decide +kernel
theorem dX2_has_5 : decode cX2_has 5 = .ok (.iload_n 1, 1) := by decide +kernel
theorem dX2_has_6 : decode cX2_has 6 = .ok (.bipush 10, 2) := by decide +kernel
theorem dX2_has_8 : decode cX2_has 8 = .ok (.idiv, 1) := by decide +kernel
theorem dX2_has_9 : decode cX2_has 9 = .ok (.aload_n 0, 1) := by decide +kernel
theorem dX2_has_10 : decode cX2_has 10 = .ok (.getfield 32, 3) := by decide +kernel
theorem dX2_has_13 : decode cX2_has 13 = .ok (.if_icmp .ne 23, 3) := by decide +kernel
theorem dX2_has_16 : decode cX2_has 16 = .ok (.iload_n 2, 1) := by decide +kernel
theorem dX2_has_17 : decode cX2_has 17 = .ok (.aload_n 0, 1) := by decide +kernel
theorem dX2_has_18 : decode cX2_has 18 = .ok (.getfield 35, 3) := by decide +kernel
theorem dX2_has_21 : decode cX2_has 21 = .ok (.if_icmp .lt 15, 3) := by decide +kernel
theorem dX2_has_24 : decode cX2_has 24 = .ok (.iload_n 2, 1) := by decide +kernel
theorem dX2_has_25 : decode cX2_has 25 = .ok (.aload_n 0, 1) := by decide +kernel
theorem dX2_has_26 : decode cX2_has 26 = .ok (.getfield 38, 3) := by decide +kernel
theorem dX2_has_29 : decode cX2_has 29 = .ok (.if_icmp .gt 7, 3) := by decide +kernel
theorem dX2_has_32 : decode cX2_has 32 = .ok (.iconst 1, 1) := by decide +kernel
theorem dX2_has_33 : decode cX2_has 33 = .ok (.goto 4, 3) := by decide +kernel
theorem dX2_has_36 : decode cX2_has 36 = .ok (.iconst 0, 1) := by decide +kernel
theorem dX2_has_37 : decode cX2_has 37 = .ok (.ireturn, 1) := by decide +kernel
theorem dX2_meets_0 : decode cX2_meets 0 = .ok (.aload_n 0, 1) := by decide +kernel
theorem dX2_meets_1 : decode cX2_meets 1 = .ok (.getfield 32, 3) := by decide +kernel
theorem dX2_meets_4 : decode cX2_meets 4 = .ok (.iload_n 1, 1) := by decide +kernel
theorem dX2_meets_5 : decode cX2_meets 5 = .ok (.if_icmp .ne 23, 3) := by decide +kernel
theorem dX2_meets_8 : decode cX2_meets 8 = .ok (.aload_n 0, 1) := by decide +kernel
theorem dX2_meets_9 : decode cX2_meets 9 = .ok (.getfield 35, 3) := by decide +kernel
theorem dX2_meets_12 : decode cX2_meets 12 = .ok (.iload_n 3, 1) := by decide +kernel
theorem dX2_meets_13 : decode cX2_meets 13 = .ok (.if_icmp .gt 15, 3) := by decide +kernel
theorem dX2_meets_16 : decode cX2_meets 16 = .ok (.iload_n 2, 1) := by decide +kernel
theorem dX2_meets_17 : decode cX2_meets 17 = .ok (.aload_n 0, 1) := by decide +kernel
theorem dX2_meets_18 : decode cX2_meets 18 = .ok (.getfield 38, 3) := by decide +kernel
theorem dX2_meets_21 : decode cX2_meets 21 = .ok (.if_icmp .gt 7, 3) := by decide +kernel
theorem dX2_meets_24 : decode cX2_meets 24 = .ok (.iconst 1, 1) := by decide +kernel
theorem dX2_meets_25 : decode cX2_meets 25 = .ok (.goto 4, 3) := by decide +kernel
theorem dX2_meets_28 : decode cX2_meets 28 = .ok (.iconst 0, 1) := by decide +kernel
theorem dX2_meets_29 : decode cX2_meets 29 = .ok (.ireturn, 1) := by decide +kernel
theorem dX2_isComingOrTaken_0 : decode cX2_isComingOrTaken 0 = .ok (.aload_n 0, 1) := by decide +kernel
theorem dX2_isComingOrTaken_1 : decode cX2_isComingOrTaken 1 = .ok (.getfield 18, 3) := by decide +kernel
theorem dX2_isComingOrTaken_4 : decode cX2_isComingOrTaken 4 = .ok (.ifCond .eq 11, 3) := by decide +kernel
theorem dX2_isComingOrTaken_7 : decode cX2_isComingOrTaken 7 = .ok (.aload_n 0, 1) := by decide +kernel
theorem dX2_isComingOrTaken_8 : decode cX2_isComingOrTaken 8 = .ok (.getfield 18, 3) := by decide +kernel
theorem dX2_isComingOrTaken_11 : decode cX2_isComingOrTaken 11 = .ok (.iconst 1, 1) := by decide +kernel
theorem dX2_isComingOrTaken_12 : decode cX2_isComingOrTaken 12 = .ok (.if_icmp .ne 7, 3) := by decide +kernel
theorem dX2_isComingOrTaken_15 : decode cX2_isComingOrTaken 15 = .ok (.iconst 1, 1) := by decide +kernel
theorem dX2_isComingOrTaken_16 : decode cX2_isComingOrTaken 16 = .ok (.goto 4, 3) := by decide +kernel
theorem dX2_isComingOrTaken_19 : decode cX2_isComingOrTaken 19 = .ok (.iconst 0, 1) := by decide +kernel
theorem dX2_isComingOrTaken_20 : decode cX2_isComingOrTaken 20 = .ok (.ireturn, 1) := by decide +kernel
theorem dX2_isMarked_0 : decode cX2_isMarked 0 = .ok (.iload_n 1, 1) := by decide +kernel
theorem dX2_isMarked_1 : decode cX2_isMarked 1 = .ok (.ifCond .ne 10, 3) := by decide +kernel
theorem dX2_isMarked_4 : decode cX2_isMarked 4 = .ok (.aload_n 0, 1) := by decide +kernel
theorem dX2_isMarked_5 : decode cX2_isMarked 5 = .ok (.getfield 22, 3) := by decide +kernel
theorem dX2_isMarked_8 : decode cX2_isMarked 8 = .ok (.goto 7, 3) := by decide +kernel
theorem dX2_isMarked_11 : decode cX2_isMarked 11 = .ok (.aload_n 0, 1) := by decide +kernel
theorem dX2_isMarked_12 : decode cX2_isMarked 12 = .ok (.getfield 26, 3) := by decide +kernel
theorem dX2_isMarked_15 : decode cX2_isMarked 15 = .ok (.ireturn, 1) := by decide +kernel
theorem dX2_putMark_0 : decode cX2_putMark 0 = .ok (.iload_n 1, 1) := by decide +kernel
theorem dX2_putMark_1 : decode cX2_putMark 1 = .ok (.ifCond .ne 11, 3) := by decide +kernel
theorem dX2_putMark_4 : decode cX2_putMark 4 = .ok (.aload_n 0, 1) := by decide +kernel
theorem dX2_putMark_5 : decode cX2_putMark 5 = .ok (.iconst 1, 1) := by decide +kernel
theorem dX2_putMark_6 : decode cX2_putMark 6 = .ok (.putfield 22, 3) := by decide +kernel
theorem dX2_putMark_9 : decode cX2_putMark 9 = .ok (.goto 8, 3) := by decide +kernel
theorem dX2_putMark_12 : decode cX2_putMark 12 = .ok (.aload_n 0, 1) := by decide +kernel
theorem dX2_putMark_13 : decode cX2_putMark 13 = .ok (.iconst 1, 1) := by decide +kernel
theorem dX2_putMark_14 : decode cX2_putMark 14 = .ok (.putfield 26, 3) := by decide +kernel
theorem dX2_putMark_17 : decode cX2_putMark 17 = .ok (.return_, 1) := by decide +kernel
theorem dX2_marks_0 : decode cX2_marks 0 = .ok (.aload_n 0, 1) := by decide +kernel
theorem dX2_marks_1 : decode cX2_marks 1 = .ok (.getfield 22, 3) := by decide +kernel
theorem dX2_marks_4 : decode cX2_marks 4 = .ok (.ifCond .eq 7, 3) := by decide +kernel
theorem dX2_marks_7 : decode cX2_marks 7 = .ok (.iconst 1, 1) := by decide +kernel
theorem dX2_marks_8 : decode cX2_marks 8 = .ok (.goto 4, 3) := by decide +kernel
theorem dX2_marks_11 : decode cX2_marks 11 = .ok (.iconst 0, 1) := by decide +kernel
theorem dX2_marks_12 : decode cX2_marks 12 = .ok (.aload_n 0, 1) := by decide +kernel
theorem dX2_marks_13 : decode cX2_marks 13 = .ok (.getfield 26, 3) := by decide +kernel
theorem dX2_marks_16 : decode cX2_marks 16 = .ok (.ifCond .eq 7, 3) := by decide +kernel
theorem dX2_marks_19 : decode cX2_marks 19 = .ok (.iconst 1, 1) := by decide +kernel
theorem dX2_marks_20 : decode cX2_marks 20 = .ok (.goto 4, 3) := by decide +kernel
theorem dX2_marks_23 : decode cX2_marks 23 = .ok (.iconst 0, 1) := by decide +kernel
theorem dX2_marks_24 : decode cX2_marks 24 = .ok (.iadd, 1) := by decide +kernel
theorem dX2_marks_25 : decode cX2_marks 25 = .ok (.ireturn, 1) := by decide +kernel
theorem dX2_uses_0 : decode cX2_uses 0 = .ok (.iconst 0, 1) := by decide +kernel
theorem dX2_uses_1 : decode cX2_uses 1 = .ok (.istore_n 2, 1) := by decide +kernel
theorem dX2_uses_2 : decode cX2_uses 2 = .ok (.iload_n 2, 1) := by decide +kernel
theorem dX2_uses_3 : decode cX2_uses 3 = .ok (.aload_n 0, 1) := by decide +kernel
theorem dX2_uses_4 : decode cX2_uses 4 = .ok (.getfield 12, 3) := by decide +kernel
theorem dX2_uses_7 : decode cX2_uses 7 = .ok (.invokevirtual 47, 3) := by decide +kernel
theorem dX2_uses_10 : decode cX2_uses 10 = .ok (.if_icmp .ge 29, 3) := by decide +kernel
theorem dX2_uses_13 : decode cX2_uses 13 = .ok (.aload_n 0, 1) := by decide +kernel
theorem dX2_uses_14 : decode cX2_uses 14 = .ok (.getfield 12, 3) := by decide +kernel
theorem dX2_uses_17 : decode cX2_uses 17 = .ok (.iload_n 2, 1) := by decide +kernel
theorem dX2_uses_18 : decode cX2_uses 18 = .ok (.invokevirtual 51, 3) := by decide +kernel
theorem dX2_uses_21 : decode cX2_uses 21 = .ok (.checkcast 55, 3) := by decide +kernel
theorem dX2_uses_24 : decode cX2_uses 24 = .ok (.getfield 57, 3) := by decide +kernel
theorem dX2_uses_27 : decode cX2_uses 27 = .ok (.aload_n 1, 1) := by decide +kernel
theorem dX2_uses_28 : decode cX2_uses 28 = .ok (.if_acmp .ne 5, 3) := by decide +kernel
theorem dX2_uses_31 : decode cX2_uses 31 = .ok (.iconst 1, 1) := by decide +kernel
theorem dX2_uses_32 : decode cX2_uses 32 = .ok (.ireturn, 1) := by decide +kernel
theorem dX2_uses_33 : decode cX2_uses 33 = .ok (.iinc 2 1, 3) := by decide +kernel
theorem dX2_uses_36 : decode cX2_uses 36 = .ok (.goto (-34), 3) := by decide +kernel
theorem dX2_uses_39 : decode cX2_uses 39 = .ok (.iconst 0, 1) := by decide +kernel
theorem dX2_uses_40 : decode cX2_uses 40 = .ok (.ireturn, 1) := by decide +kernel
theorem dX2_hoursPlanned_0 : decode cX2_hoursPlanned 0 = .ok (.iconst 0, 1) := by decide +kernel
theorem dX2_hoursPlanned_1 : decode cX2_hoursPlanned 1 = .ok (.istore_n 1, 1) := by decide +kernel
theorem dX2_hoursPlanned_2 : decode cX2_hoursPlanned 2 = .ok (.iconst 0, 1) := by decide +kernel
theorem dX2_hoursPlanned_3 : decode cX2_hoursPlanned 3 = .ok (.istore_n 2, 1) := by decide +kernel
theorem dX2_hoursPlanned_4 : decode cX2_hoursPlanned 4 = .ok (.iload_n 2, 1) := by decide +kernel
theorem dX2_hoursPlanned_5 : decode cX2_hoursPlanned 5 = .ok (.aload_n 0, 1) := by decide +kernel
theorem dX2_hoursPlanned_6 : decode cX2_hoursPlanned 6 = .ok (.getfield 12, 3) := by decide +kernel
theorem dX2_hoursPlanned_9 : decode cX2_hoursPlanned 9 = .ok (.invokevirtual 47, 3) := by decide +kernel
theorem dX2_hoursPlanned_12 : decode cX2_hoursPlanned 12 = .ok (.if_icmp .ge 26, 3) := by decide +kernel
theorem dX2_hoursPlanned_15 : decode cX2_hoursPlanned 15 = .ok (.iload_n 1, 1) := by decide +kernel
theorem dX2_hoursPlanned_16 : decode cX2_hoursPlanned 16 = .ok (.aload_n 0, 1) := by decide +kernel
theorem dX2_hoursPlanned_17 : decode cX2_hoursPlanned 17 = .ok (.getfield 12, 3) := by decide +kernel
theorem dX2_hoursPlanned_20 : decode cX2_hoursPlanned 20 = .ok (.iload_n 2, 1) := by decide +kernel
theorem dX2_hoursPlanned_21 : decode cX2_hoursPlanned 21 = .ok (.invokevirtual 51, 3) := by decide +kernel
theorem dX2_hoursPlanned_24 : decode cX2_hoursPlanned 24 = .ok (.checkcast 55, 3) := by decide +kernel
theorem dX2_hoursPlanned_27 : decode cX2_hoursPlanned 27 = .ok (.getfield 61, 3) := by decide +kernel
theorem dX2_hoursPlanned_30 : decode cX2_hoursPlanned 30 = .ok (.iadd, 1) := by decide +kernel
theorem dX2_hoursPlanned_31 : decode cX2_hoursPlanned 31 = .ok (.istore_n 1, 1) := by decide +kernel
theorem dX2_hoursPlanned_32 : decode cX2_hoursPlanned 32 = .ok (.iinc 2 1, 3) := by decide +kernel
theorem dX2_hoursPlanned_35 : decode cX2_hoursPlanned 35 = .ok (.goto (-31), 3) := by decide +kernel
theorem dX2_hoursPlanned_38 : decode cX2_hoursPlanned 38 = .ok (.iload_n 1, 1) := by decide +kernel
theorem dX2_hoursPlanned_39 : decode cX2_hoursPlanned 39 = .ok (.ireturn, 1) := by decide +kernel
theorem dX2_hoursTakenBy_0 : decode cX2_hoursTakenBy 0 = .ok (.aload_n 1, 1) := by decide +kernel
theorem dX2_hoursTakenBy_1 : decode cX2_hoursTakenBy 1 = .ok (.getfield 62, 3) := by decide +kernel
theorem dX2_hoursTakenBy_4 : decode cX2_hoursTakenBy 4 = .ok (.istore_n 2, 1) := by decide +kernel
theorem dX2_hoursTakenBy_5 : decode cX2_hoursTakenBy 5 = .ok (.iconst 0, 1) := by decide +kernel
theorem dX2_hoursTakenBy_6 : decode cX2_hoursTakenBy 6 = .ok (.istore_n 3, 1) := by decide +kernel
theorem dX2_hoursTakenBy_7 : decode cX2_hoursTakenBy 7 = .ok (.iconst 0, 1) := by decide +kernel
theorem dX2_hoursTakenBy_8 : decode cX2_hoursTakenBy 8 = .ok (.istore 4, 2) := by decide +kernel
theorem dX2_hoursTakenBy_10 : decode cX2_hoursTakenBy 10 = .ok (.iload 4, 2) := by decide +kernel
theorem dX2_hoursTakenBy_12 : decode cX2_hoursTakenBy 12 = .ok (.aload_n 0, 1) := by decide +kernel
theorem dX2_hoursTakenBy_13 : decode cX2_hoursTakenBy 13 = .ok (.getfield 12, 3) := by decide +kernel
theorem dX2_hoursTakenBy_16 : decode cX2_hoursTakenBy 16 = .ok (.invokevirtual 47, 3) := by decide +kernel
theorem dX2_hoursTakenBy_19 : decode cX2_hoursTakenBy 19 = .ok (.if_icmp .ge 88, 3) := by decide +kernel
theorem dX2_hoursTakenBy_22 : decode cX2_hoursTakenBy 22 = .ok (.aload_n 0, 1) := by decide +kernel
theorem dX2_hoursTakenBy_23 : decode cX2_hoursTakenBy 23 = .ok (.getfield 12, 3) := by decide +kernel
theorem dX2_hoursTakenBy_26 : decode cX2_hoursTakenBy 26 = .ok (.iload 4, 2) := by decide +kernel
theorem dX2_hoursTakenBy_28 : decode cX2_hoursTakenBy 28 = .ok (.invokevirtual 51, 3) := by decide +kernel
theorem dX2_hoursTakenBy_31 : decode cX2_hoursTakenBy 31 = .ok (.checkcast 55, 3) := by decide +kernel
theorem dX2_hoursTakenBy_34 : decode cX2_hoursTakenBy 34 = .ok (.astore 5, 2) := by decide +kernel
theorem dX2_hoursTakenBy_36 : decode cX2_hoursTakenBy 36 = .ok (.aload 5, 2) := by decide +kernel
theorem dX2_hoursTakenBy_38 : decode cX2_hoursTakenBy 38 = .ok (.getfield 57, 3) := by decide +kernel
theorem dX2_hoursTakenBy_41 : decode cX2_hoursTakenBy 41 = .ok (.aload_n 1, 1) := by decide +kernel
theorem dX2_hoursTakenBy_42 : decode cX2_hoursTakenBy 42 = .ok (.if_acmp .ne 59, 3) := by decide +kernel
theorem dX2_hoursTakenBy_45 : decode cX2_hoursTakenBy 45 = .ok (.iload_n 2, 1) := by decide +kernel
theorem dX2_hoursTakenBy_46 : decode cX2_hoursTakenBy 46 = .ok (.aload 5, 2) := by decide +kernel
theorem dX2_hoursTakenBy_48 : decode cX2_hoursTakenBy 48 = .ok (.getfield 61, 3) := by decide +kernel
theorem dX2_hoursTakenBy_51 : decode cX2_hoursTakenBy 51 = .ok (.if_icmp .ge 7, 3) := by decide +kernel
theorem dX2_hoursTakenBy_54 : decode cX2_hoursTakenBy 54 = .ok (.iconst 1, 1) := by decide +kernel
theorem dX2_hoursTakenBy_55 : decode cX2_hoursTakenBy 55 = .ok (.goto 4, 3) := by decide +kernel
theorem dX2_hoursTakenBy_58 : decode cX2_hoursTakenBy 58 = .ok (.iconst 0, 1) := by decide +kernel
theorem dX2_hoursTakenBy_59 : decode cX2_hoursTakenBy 59 = .ok (.istore 6, 2) := by decide +kernel
theorem dX2_hoursTakenBy_61 : decode cX2_hoursTakenBy 61 = .ok (.iload 6, 2) := by decide +kernel
theorem dX2_hoursTakenBy_63 : decode cX2_hoursTakenBy 63 = .ok (.ifCond .eq 7, 3) := by decide +kernel
theorem dX2_hoursTakenBy_66 : decode cX2_hoursTakenBy 66 = .ok (.iconst 0, 1) := by decide +kernel
theorem dX2_hoursTakenBy_67 : decode cX2_hoursTakenBy 67 = .ok (.goto 10, 3) := by decide +kernel
theorem dX2_hoursTakenBy_70 : decode cX2_hoursTakenBy 70 = .ok (.iload_n 2, 1) := by decide +kernel
theorem dX2_hoursTakenBy_71 : decode cX2_hoursTakenBy 71 = .ok (.aload 5, 2) := by decide +kernel
theorem dX2_hoursTakenBy_73 : decode cX2_hoursTakenBy 73 = .ok (.getfield 61, 3) := by decide +kernel
theorem dX2_hoursTakenBy_76 : decode cX2_hoursTakenBy 76 = .ok (.isub, 1) := by decide +kernel
theorem dX2_hoursTakenBy_77 : decode cX2_hoursTakenBy 77 = .ok (.istore_n 2, 1) := by decide +kernel
theorem dX2_hoursTakenBy_78 : decode cX2_hoursTakenBy 78 = .ok (.iload_n 3, 1) := by decide +kernel
theorem dX2_hoursTakenBy_79 : decode cX2_hoursTakenBy 79 = .ok (.iload 6, 2) := by decide +kernel
theorem dX2_hoursTakenBy_81 : decode cX2_hoursTakenBy 81 = .ok (.ifCond .eq 13, 3) := by decide +kernel
theorem dX2_hoursTakenBy_84 : decode cX2_hoursTakenBy 84 = .ok (.aload 5, 2) := by decide +kernel
theorem dX2_hoursTakenBy_86 : decode cX2_hoursTakenBy 86 = .ok (.getfield 61, 3) := by decide +kernel
theorem dX2_hoursTakenBy_89 : decode cX2_hoursTakenBy 89 = .ok (.iconst 2, 1) := by decide +kernel
theorem dX2_hoursTakenBy_90 : decode cX2_hoursTakenBy 90 = .ok (.iadd, 1) := by decide +kernel
theorem dX2_hoursTakenBy_91 : decode cX2_hoursTakenBy 91 = .ok (.goto 8, 3) := by decide +kernel
theorem dX2_hoursTakenBy_94 : decode cX2_hoursTakenBy 94 = .ok (.aload 5, 2) := by decide +kernel
theorem dX2_hoursTakenBy_96 : decode cX2_hoursTakenBy 96 = .ok (.getfield 61, 3) := by decide +kernel
theorem dX2_hoursTakenBy_99 : decode cX2_hoursTakenBy 99 = .ok (.iadd, 1) := by decide +kernel
theorem dX2_hoursTakenBy_100 : decode cX2_hoursTakenBy 100 = .ok (.istore_n 3, 1) := by decide +kernel
theorem dX2_hoursTakenBy_101 : decode cX2_hoursTakenBy 101 = .ok (.iinc 4 1, 3) := by decide +kernel
theorem dX2_hoursTakenBy_104 : decode cX2_hoursTakenBy 104 = .ok (.goto (-94), 3) := by decide +kernel
theorem dX2_hoursTakenBy_107 : decode cX2_hoursTakenBy 107 = .ok (.iload_n 3, 1) := by decide +kernel
theorem dX2_hoursTakenBy_108 : decode cX2_hoursTakenBy 108 = .ok (.ireturn, 1) := by decide +kernel
theorem dX3_init_0 : decode cX3_init 0 = .ok (.aload_n 0, 1) := by decide +kernel
theorem dX3_init_1 : decode cX3_init 1 = .ok (.invokespecial 3, 3) := by decide +kernel
theorem dX3_init_4 : decode cX3_init 4 = .ok (.aload_n 0, 1) := by decide +kernel
theorem dX3_init_5 : decode cX3_init 5 = .ok (.new 9, 3) := by decide +kernel
theorem dX3_init_8 : decode cX3_init 8 = .ok (.dup, 1) := by decide +kernel
theorem dX3_init_9 : decode cX3_init 9 = .ok (.iconst 0, 1) := by decide +kernel
theorem dX3_init_10 : decode cX3_init 10 = .ok (.iconst 0, 1) := by decide +kernel
theorem dX3_init_11 : decode cX3_init 11 = .ok (.iconst 0, 1) := by decide +kernel
theorem dX3_init_12 : decode cX3_init 12 = .ok (.invokespecial 11, 3) := by decide +kernel
theorem dX3_init_15 : decode cX3_init 15 = .ok (.putfield 14, 3) := by decide +kernel
theorem dX3_init_18 : decode cX3_init 18 = .ok (.aload_n 0, 1) := by decide +kernel
theorem dX3_init_19 : decode cX3_init 19 = .ok (.iconst 0, 1) := by decide +kernel
theorem dX3_init_20 : decode cX3_init 20 = .ok (.putfield 20, 3) := by decide +kernel
theorem dX3_init_23 : decode cX3_init 23 = .ok (.aload_n 0, 1) := by decide +kernel
theorem dX3_init_24 : decode cX3_init 24 = .ok (.bipush 27, 2) := by decide +kernel
theorem dX3_init_26 : decode cX3_init 26 = .ok (.putfield 24, 3) := by decide +kernel
theorem dX3_init_29 : decode cX3_init 29 = .ok (.aload_n 0, 1) := by decide +kernel
theorem dX3_init_30 : decode cX3_init 30 = .ok (.iconst 0, 1) := by decide +kernel
theorem dX3_init_31 : decode cX3_init 31 = .ok (.putfield 27, 3) := by decide +kernel
theorem dX3_init_34 : decode cX3_init 34 = .ok (.aload_n 0, 1) := by decide +kernel
theorem dX3_init_35 : decode cX3_init 35 = .ok (.sipush 160, 3) := by decide +kernel
theorem dX3_init_38 : decode cX3_init 38 = .ok (.putfield 31, 3) := by decide +kernel
theorem dX3_init_41 : decode cX3_init 41 = .ok (.return_, 1) := by decide +kernel
theorem dX3_become_0 : decode cX3_become 0 = .ok (.aload_n 0, 1) := by decide +kernel
theorem dX3_become_1 : decode cX3_become 1 = .ok (.getfield 14, 3) := by decide +kernel
theorem dX3_become_4 : decode cX3_become 4 = .ok (.aload_n 1, 1) := by decide +kernel
theorem dX3_become_5 : decode cX3_become 5 = .ok (.getfield 14, 3) := by decide +kernel
theorem dX3_become_8 : decode cX3_become 8 = .ok (.getfield 34, 3) := by decide +kernel
theorem dX3_become_11 : decode cX3_become 11 = .ok (.putfield 34, 3) := by decide +kernel
theorem dX3_become_14 : decode cX3_become 14 = .ok (.aload_n 0, 1) := by decide +kernel
theorem dX3_become_15 : decode cX3_become 15 = .ok (.getfield 14, 3) := by decide +kernel
theorem dX3_become_18 : decode cX3_become 18 = .ok (.aload_n 1, 1) := by decide +kernel
theorem dX3_become_19 : decode cX3_become 19 = .ok (.getfield 14, 3) := by decide +kernel
theorem dX3_become_22 : decode cX3_become 22 = .ok (.getfield 37, 3) := by decide +kernel
theorem dX3_become_25 : decode cX3_become 25 = .ok (.putfield 37, 3) := by decide +kernel
theorem dX3_become_28 : decode cX3_become 28 = .ok (.aload_n 0, 1) := by decide +kernel
theorem dX3_become_29 : decode cX3_become 29 = .ok (.getfield 14, 3) := by decide +kernel
theorem dX3_become_32 : decode cX3_become 32 = .ok (.aload_n 1, 1) := by decide +kernel
theorem dX3_become_33 : decode cX3_become 33 = .ok (.getfield 14, 3) := by decide +kernel
theorem dX3_become_36 : decode cX3_become 36 = .ok (.getfield 40, 3) := by decide +kernel
theorem dX3_become_39 : decode cX3_become 39 = .ok (.putfield 40, 3) := by decide +kernel
theorem dX3_become_42 : decode cX3_become 42 = .ok (.aload_n 0, 1) := by decide +kernel
theorem dX3_become_43 : decode cX3_become 43 = .ok (.aload_n 1, 1) := by decide +kernel
theorem dX3_become_44 : decode cX3_become 44 = .ok (.getfield 20, 3) := by decide +kernel
theorem dX3_become_47 : decode cX3_become 47 = .ok (.putfield 20, 3) := by decide +kernel
theorem dX3_become_50 : decode cX3_become 50 = .ok (.aload_n 0, 1) := by decide +kernel
theorem dX3_become_51 : decode cX3_become 51 = .ok (.aload_n 1, 1) := by decide +kernel
theorem dX3_become_52 : decode cX3_become 52 = .ok (.getfield 24, 3) := by decide +kernel
theorem dX3_become_55 : decode cX3_become 55 = .ok (.putfield 24, 3) := by decide +kernel
theorem dX3_become_58 : decode cX3_become 58 = .ok (.aload_n 0, 1) := by decide +kernel
theorem dX3_become_59 : decode cX3_become 59 = .ok (.aload_n 1, 1) := by decide +kernel
theorem dX3_become_60 : decode cX3_become 60 = .ok (.getfield 27, 3) := by decide +kernel
theorem dX3_become_63 : decode cX3_become 63 = .ok (.putfield 27, 3) := by decide +kernel
theorem dX3_become_66 : decode cX3_become 66 = .ok (.aload_n 0, 1) := by decide +kernel
theorem dX3_become_67 : decode cX3_become 67 = .ok (.aload_n 1, 1) := by decide +kernel
theorem dX3_become_68 : decode cX3_become 68 = .ok (.getfield 31, 3) := by decide +kernel
theorem dX3_become_71 : decode cX3_become 71 = .ok (.putfield 31, 3) := by decide +kernel
theorem dX3_become_74 : decode cX3_become 74 = .ok (.return_, 1) := by decide +kernel
theorem dX3_trueSpeed_0 : decode cX3_trueSpeed 0 = .ok (.aload_n 0, 1) := by decide +kernel
theorem dX3_trueSpeed_1 : decode cX3_trueSpeed 1 = .ok (.getfield 14, 3) := by decide +kernel
theorem dX3_trueSpeed_4 : decode cX3_trueSpeed 4 = .ok (.iload_n 1, 1) := by decide +kernel
theorem dX3_trueSpeed_5 : decode cX3_trueSpeed 5 = .ok (.aload_n 0, 1) := by decide +kernel
theorem dX3_trueSpeed_6 : decode cX3_trueSpeed 6 = .ok (.getfield 24, 3) := by decide +kernel
theorem dX3_trueSpeed_9 : decode cX3_trueSpeed 9 = .ok (.isub, 1) := by decide +kernel
theorem dX3_trueSpeed_10 : decode cX3_trueSpeed 10 = .ok (.invokevirtual 43, 3) := by decide +kernel
theorem dX3_trueSpeed_13 : decode cX3_trueSpeed 13 = .ok (.ireturn, 1) := by decide +kernel
theorem dX3_isRisk_0 : decode cX3_isRisk 0 = .ok (.aload_n 0, 1) := by decide +kernel
theorem dX3_isRisk_1 : decode cX3_isRisk 1 = .ok (.getfield 31, 3) := by decide +kernel
theorem dX3_isRisk_4 : decode cX3_isRisk 4 = .ok (.aload_n 0, 1) := by decide +kernel
theorem dX3_isRisk_5 : decode cX3_isRisk 5 = .ok (.iload_n 1, 1) := by decide +kernel
theorem dX3_isRisk_6 : decode cX3_isRisk 6 = .ok (.invokevirtual 47, 3) := by decide +kernel
theorem dX3_isRisk_9 : decode cX3_isRisk 9 = .ok (.if_icmp .le 7, 3) := by decide +kernel
theorem dX3_isRisk_12 : decode cX3_isRisk 12 = .ok (.iconst 1, 1) := by decide +kernel
theorem dX3_isRisk_13 : decode cX3_isRisk 13 = .ok (.goto 4, 3) := by decide +kernel
theorem dX3_isRisk_16 : decode cX3_isRisk 16 = .ok (.iconst 0, 1) := by decide +kernel
theorem dX3_isRisk_17 : decode cX3_isRisk 17 = .ok (.ireturn, 1) := by decide +kernel
theorem dX3_bearDay_0 : decode cX3_bearDay 0 = .ok (.aload_n 0, 1) := by decide +kernel
theorem dX3_bearDay_1 : decode cX3_bearDay 1 = .ok (.getfield 27, 3) := by decide +kernel
theorem dX3_bearDay_4 : decode cX3_bearDay 4 = .ok (.ifCond .eq 9, 3) := by decide +kernel
theorem dX3_bearDay_7 : decode cX3_bearDay 7 = .ok (.iload_n 1, 1) := by decide +kernel
theorem dX3_bearDay_8 : decode cX3_bearDay 8 = .ok (.iconst 4, 1) := by decide +kernel
theorem dX3_bearDay_9 : decode cX3_bearDay 9 = .ok (.idiv, 1) := by decide +kernel
theorem dX3_bearDay_10 : decode cX3_bearDay 10 = .ok (.goto 7, 3) := by decide +kernel
theorem dX3_bearDay_13 : decode cX3_bearDay 13 = .ok (.iload_n 1, 1) := by decide +kernel
theorem dX3_bearDay_14 : decode cX3_bearDay 14 = .ok (.bipush 8, 2) := by decide +kernel
theorem dX3_bearDay_16 : decode cX3_bearDay 16 = .ok (.idiv, 1) := by decide +kernel
theorem dX3_bearDay_17 : decode cX3_bearDay 17 = .ok (.istore_n 2, 1) := by decide +kernel
theorem dX3_bearDay_18 : decode cX3_bearDay 18 = .ok (.aload_n 0, 1) := by decide +kernel
theorem dX3_bearDay_19 : decode cX3_bearDay 19 = .ok (.getfield 14, 3) := by decide +kernel
theorem dX3_bearDay_22 : decode cX3_bearDay 22 = .ok (.bipush 100, 2) := by decide +kernel
theorem dX3_bearDay_24 : decode cX3_bearDay 24 = .ok (.aload_n 0, 1) := by decide +kernel
theorem dX3_bearDay_25 : decode cX3_bearDay 25 = .ok (.getfield 14, 3) := by decide +kernel
theorem dX3_bearDay_28 : decode cX3_bearDay 28 = .ok (.getfield 34, 3) := by decide +kernel
theorem dX3_bearDay_31 : decode cX3_bearDay 31 = .ok (.iload_n 2, 1) := by decide +kernel
theorem dX3_bearDay_32 : decode cX3_bearDay 32 = .ok (.iadd, 1) := by decide +kernel
theorem dX3_bearDay_33 : decode cX3_bearDay 33 = .ok (.invokestatic 50, 3) := by decide +kernel
theorem dX3_bearDay_36 : decode cX3_bearDay 36 = .ok (.putfield 34, 3) := by decide +kernel
theorem dX3_bearDay_39 : decode cX3_bearDay 39 = .ok (.aload_n 0, 1) := by decide +kernel
theorem dX3_bearDay_40 : decode cX3_bearDay 40 = .ok (.getfield 14, 3) := by decide +kernel
theorem dX3_bearDay_43 : decode cX3_bearDay 43 = .ok (.bipush 60, 2) := by decide +kernel
theorem dX3_bearDay_45 : decode cX3_bearDay 45 = .ok (.aload_n 0, 1) := by decide +kernel
theorem dX3_bearDay_46 : decode cX3_bearDay 46 = .ok (.getfield 14, 3) := by decide +kernel
theorem dX3_bearDay_49 : decode cX3_bearDay 49 = .ok (.getfield 37, 3) := by decide +kernel
theorem dX3_bearDay_52 : decode cX3_bearDay 52 = .ok (.aload_n 0, 1) := by decide +kernel
theorem dX3_bearDay_53 : decode cX3_bearDay 53 = .ok (.invokevirtual 56, 3) := by decide +kernel
theorem dX3_bearDay_56 : decode cX3_bearDay 56 = .ok (.iadd, 1) := by decide +kernel
theorem dX3_bearDay_57 : decode cX3_bearDay 57 = .ok (.invokestatic 50, 3) := by decide +kernel
theorem dX3_bearDay_60 : decode cX3_bearDay 60 = .ok (.putfield 37, 3) := by decide +kernel
theorem dX3_bearDay_63 : decode cX3_bearDay 63 = .ok (.aload_n 0, 1) := by decide +kernel
theorem dX3_bearDay_64 : decode cX3_bearDay 64 = .ok (.getfield 14, 3) := by decide +kernel
theorem dX3_bearDay_67 : decode cX3_bearDay 67 = .ok (.bipush 60, 2) := by decide +kernel
theorem dX3_bearDay_69 : decode cX3_bearDay 69 = .ok (.aload_n 0, 1) := by decide +kernel
theorem dX3_bearDay_70 : decode cX3_bearDay 70 = .ok (.getfield 14, 3) := by decide +kernel
theorem dX3_bearDay_73 : decode cX3_bearDay 73 = .ok (.getfield 40, 3) := by decide +kernel
theorem dX3_bearDay_76 : decode cX3_bearDay 76 = .ok (.iload_n 1, 1) := by decide +kernel
theorem dX3_bearDay_77 : decode cX3_bearDay 77 = .ok (.iconst 5, 1) := by decide +kernel
theorem dX3_bearDay_78 : decode cX3_bearDay 78 = .ok (.aload_n 0, 1) := by decide +kernel
theorem dX3_bearDay_79 : decode cX3_bearDay 79 = .ok (.getfield 20, 3) := by decide +kernel
theorem dX3_bearDay_82 : decode cX3_bearDay 82 = .ok (.imul, 1) := by decide +kernel
theorem dX3_bearDay_83 : decode cX3_bearDay 83 = .ok (.iadd, 1) := by decide +kernel
theorem dX3_bearDay_84 : decode cX3_bearDay 84 = .ok (.bipush 10, 2) := by decide +kernel
theorem dX3_bearDay_86 : decode cX3_bearDay 86 = .ok (.idiv, 1) := by decide +kernel
theorem dX3_bearDay_87 : decode cX3_bearDay 87 = .ok (.iadd, 1) := by decide +kernel
theorem dX3_bearDay_88 : decode cX3_bearDay 88 = .ok (.invokestatic 50, 3) := by decide +kernel
theorem dX3_bearDay_91 : decode cX3_bearDay 91 = .ok (.putfield 40, 3) := by decide +kernel
theorem dX3_bearDay_94 : decode cX3_bearDay 94 = .ok (.return_, 1) := by decide +kernel
theorem dX3_crackGrowth_0 : decode cX3_crackGrowth 0 = .ok (.aload_n 0, 1) := by decide +kernel
theorem dX3_crackGrowth_1 : decode cX3_crackGrowth 1 = .ok (.getfield 14, 3) := by decide +kernel
theorem dX3_crackGrowth_4 : decode cX3_crackGrowth 4 = .ok (.getfield 37, 3) := by decide +kernel
theorem dX3_crackGrowth_7 : decode cX3_crackGrowth 7 = .ok (.ifCond .le 16, 3) := by decide +kernel
theorem dX3_crackGrowth_10 : decode cX3_crackGrowth 10 = .ok (.iconst 1, 1) := by decide +kernel
theorem dX3_crackGrowth_11 : decode cX3_crackGrowth 11 = .ok (.aload_n 0, 1) := by decide +kernel
theorem dX3_crackGrowth_12 : decode cX3_crackGrowth 12 = .ok (.getfield 14, 3) := by decide +kernel
theorem dX3_crackGrowth_15 : decode cX3_crackGrowth 15 = .ok (.getfield 37, 3) := by decide +kernel
theorem dX3_crackGrowth_18 : decode cX3_crackGrowth 18 = .ok (.bipush 8, 2) := by decide +kernel
theorem dX3_crackGrowth_20 : decode cX3_crackGrowth 20 = .ok (.idiv, 1) := by decide +kernel
theorem dX3_crackGrowth_21 : decode cX3_crackGrowth 21 = .ok (.iadd, 1) := by decide +kernel
theorem dX3_crackGrowth_22 : decode cX3_crackGrowth 22 = .ok (.ireturn, 1) := by decide +kernel
theorem dX3_crackGrowth_23 : decode cX3_crackGrowth 23 = .ok (.aload_n 0, 1) := by decide +kernel
theorem dX3_crackGrowth_24 : decode cX3_crackGrowth 24 = .ok (.getfield 14, 3) := by decide +kernel
theorem dX3_crackGrowth_27 : decode cX3_crackGrowth 27 = .ok (.getfield 34, 3) := by decide +kernel
theorem dX3_crackGrowth_30 : decode cX3_crackGrowth 30 = .ok (.bipush 50, 2) := by decide +kernel
theorem dX3_crackGrowth_32 : decode cX3_crackGrowth 32 = .ok (.if_icmp .lt 7, 3) := by decide +kernel
theorem dX3_crackGrowth_35 : decode cX3_crackGrowth 35 = .ok (.iconst 1, 1) := by decide +kernel
theorem dX3_crackGrowth_36 : decode cX3_crackGrowth 36 = .ok (.goto 4, 3) := by decide +kernel
theorem dX3_crackGrowth_39 : decode cX3_crackGrowth 39 = .ok (.iconst 0, 1) := by decide +kernel
theorem dX3_crackGrowth_40 : decode cX3_crackGrowth 40 = .ok (.ireturn, 1) := by decide +kernel
theorem dX3_hoursFor_0 : decode cX3_hoursFor 0 = .ok (.aload_n 0, 1) := by decide +kernel
theorem dX3_hoursFor_1 : decode cX3_hoursFor 1 = .ok (.getfield 27, 3) := by decide +kernel
theorem dX3_hoursFor_4 : decode cX3_hoursFor 4 = .ok (.ifCond .eq 7, 3) := by decide +kernel
theorem dX3_hoursFor_7 : decode cX3_hoursFor 7 = .ok (.iconst 1, 1) := by decide +kernel
theorem dX3_hoursFor_8 : decode cX3_hoursFor 8 = .ok (.goto 4, 3) := by decide +kernel
theorem dX3_hoursFor_11 : decode cX3_hoursFor 11 = .ok (.iconst 0, 1) := by decide +kernel
theorem dX3_hoursFor_12 : decode cX3_hoursFor 12 = .ok (.istore_n 2, 1) := by decide +kernel
theorem dX3_hoursFor_13 : decode cX3_hoursFor 13 = .ok (.iload_n 1, 1) := by decide +kernel
theorem dX3_hoursFor_14 : decode cX3_hoursFor 14 = .ok (.lookupswitch 34 #[(0, 26), (1, 30)], 26) := by decide +kernel
theorem dX3_hoursFor_40 : decode cX3_hoursFor 40 = .ok (.iconst 1, 1) := by decide +kernel
theorem dX3_hoursFor_41 : decode cX3_hoursFor 41 = .ok (.iload_n 2, 1) := by decide +kernel
theorem dX3_hoursFor_42 : decode cX3_hoursFor 42 = .ok (.iadd, 1) := by decide +kernel
theorem dX3_hoursFor_43 : decode cX3_hoursFor 43 = .ok (.ireturn, 1) := by decide +kernel
theorem dX3_hoursFor_44 : decode cX3_hoursFor 44 = .ok (.iconst 2, 1) := by decide +kernel
theorem dX3_hoursFor_45 : decode cX3_hoursFor 45 = .ok (.iload_n 2, 1) := by decide +kernel
theorem dX3_hoursFor_46 : decode cX3_hoursFor 46 = .ok (.iadd, 1) := by decide +kernel
theorem dX3_hoursFor_47 : decode cX3_hoursFor 47 = .ok (.ireturn, 1) := by decide +kernel
theorem dX3_hoursFor_48 : decode cX3_hoursFor 48 = .ok (.iconst 4, 1) := by decide +kernel
theorem dX3_hoursFor_49 : decode cX3_hoursFor 49 = .ok (.iload_n 2, 1) := by decide +kernel
theorem dX3_hoursFor_50 : decode cX3_hoursFor 50 = .ok (.iadd, 1) := by decide +kernel
theorem dX3_hoursFor_51 : decode cX3_hoursFor 51 = .ok (.ireturn, 1) := by decide +kernel
theorem dX3_treat_0 : decode cX3_treat 0 = .ok (.iload_n 1, 1) := by decide +kernel
theorem dX3_treat_1 : decode cX3_treat 1 = .ok (.ifCond .ne 32, 3) := by decide +kernel
theorem dX3_treat_4 : decode cX3_treat 4 = .ok (.aload_n 0, 1) := by decide +kernel
theorem dX3_treat_5 : decode cX3_treat 5 = .ok (.getfield 14, 3) := by decide +kernel
theorem dX3_treat_8 : decode cX3_treat 8 = .ok (.aload_n 0, 1) := by decide +kernel
theorem dX3_treat_9 : decode cX3_treat 9 = .ok (.getfield 14, 3) := by decide +kernel
theorem dX3_treat_12 : decode cX3_treat 12 = .ok (.getfield 40, 3) := by decide +kernel
theorem dX3_treat_15 : decode cX3_treat 15 = .ok (.iconst 4, 1) := by decide +kernel
theorem dX3_treat_16 : decode cX3_treat 16 = .ok (.idiv, 1) := by decide +kernel
theorem dX3_treat_17 : decode cX3_treat 17 = .ok (.putfield 40, 3) := by decide +kernel
theorem dX3_treat_20 : decode cX3_treat 20 = .ok (.aload_n 0, 1) := by decide +kernel
theorem dX3_treat_21 : decode cX3_treat 21 = .ok (.dup, 1) := by decide +kernel
theorem dX3_treat_22 : decode cX3_treat 22 = .ok (.getfield 20, 3) := by decide +kernel
theorem dX3_treat_25 : decode cX3_treat 25 = .ok (.iconst 1, 1) := by decide +kernel
theorem dX3_treat_26 : decode cX3_treat 26 = .ok (.iadd, 1) := by decide +kernel
theorem dX3_treat_27 : decode cX3_treat 27 = .ok (.putfield 20, 3) := by decide +kernel
theorem dX3_treat_30 : decode cX3_treat 30 = .ok (.goto 97, 3) := by decide +kernel
theorem dX3_treat_33 : decode cX3_treat 33 = .ok (.iload_n 1, 1) := by decide +kernel
theorem dX3_treat_34 : decode cX3_treat 34 = .ok (.iconst 1, 1) := by decide +kernel
theorem dX3_treat_35 : decode cX3_treat 35 = .ok (.if_icmp .ne 48, 3) := by decide +kernel
theorem dX3_treat_38 : decode cX3_treat 38 = .ok (.aload_n 0, 1) := by decide +kernel
theorem dX3_treat_39 : decode cX3_treat 39 = .ok (.getfield 14, 3) := by decide +kernel
theorem dX3_treat_42 : decode cX3_treat 42 = .ok (.iconst 0, 1) := by decide +kernel
theorem dX3_treat_43 : decode cX3_treat 43 = .ok (.aload_n 0, 1) := by decide +kernel
theorem dX3_treat_44 : decode cX3_treat 44 = .ok (.getfield 14, 3) := by decide +kernel
theorem dX3_treat_47 : decode cX3_treat 47 = .ok (.getfield 37, 3) := by decide +kernel
theorem dX3_treat_50 : decode cX3_treat 50 = .ok (.bipush 8, 2) := by decide +kernel
theorem dX3_treat_52 : decode cX3_treat 52 = .ok (.isub, 1) := by decide +kernel
theorem dX3_treat_53 : decode cX3_treat 53 = .ok (.invokestatic 60, 3) := by decide +kernel
theorem dX3_treat_56 : decode cX3_treat 56 = .ok (.putfield 37, 3) := by decide +kernel
theorem dX3_treat_59 : decode cX3_treat 59 = .ok (.aload_n 0, 1) := by decide +kernel
theorem dX3_treat_60 : decode cX3_treat 60 = .ok (.getfield 14, 3) := by decide +kernel
theorem dX3_treat_63 : decode cX3_treat 63 = .ok (.bipush 100, 2) := by decide +kernel
theorem dX3_treat_65 : decode cX3_treat 65 = .ok (.aload_n 0, 1) := by decide +kernel
theorem dX3_treat_66 : decode cX3_treat 66 = .ok (.getfield 14, 3) := by decide +kernel
theorem dX3_treat_69 : decode cX3_treat 69 = .ok (.getfield 34, 3) := by decide +kernel
theorem dX3_treat_72 : decode cX3_treat 72 = .ok (.iconst 2, 1) := by decide +kernel
theorem dX3_treat_73 : decode cX3_treat 73 = .ok (.iadd, 1) := by decide +kernel
theorem dX3_treat_74 : decode cX3_treat 74 = .ok (.invokestatic 50, 3) := by decide +kernel
theorem dX3_treat_77 : decode cX3_treat 77 = .ok (.putfield 34, 3) := by decide +kernel
theorem dX3_treat_80 : decode cX3_treat 80 = .ok (.goto 47, 3) := by decide +kernel
theorem dX3_treat_83 : decode cX3_treat 83 = .ok (.aload_n 0, 1) := by decide +kernel
theorem dX3_treat_84 : decode cX3_treat 84 = .ok (.getfield 14, 3) := by decide +kernel
theorem dX3_treat_87 : decode cX3_treat 87 = .ok (.iconst 0, 1) := by decide +kernel
theorem dX3_treat_88 : decode cX3_treat 88 = .ok (.putfield 34, 3) := by decide +kernel
theorem dX3_treat_91 : decode cX3_treat 91 = .ok (.aload_n 0, 1) := by decide +kernel
theorem dX3_treat_92 : decode cX3_treat 92 = .ok (.getfield 14, 3) := by decide +kernel
theorem dX3_treat_95 : decode cX3_treat 95 = .ok (.iconst 0, 1) := by decide +kernel
theorem dX3_treat_96 : decode cX3_treat 96 = .ok (.putfield 37, 3) := by decide +kernel
theorem dX3_treat_99 : decode cX3_treat 99 = .ok (.aload_n 0, 1) := by decide +kernel
theorem dX3_treat_100 : decode cX3_treat 100 = .ok (.getfield 14, 3) := by decide +kernel
theorem dX3_treat_103 : decode cX3_treat 103 = .ok (.iconst 0, 1) := by decide +kernel
theorem dX3_treat_104 : decode cX3_treat 104 = .ok (.putfield 40, 3) := by decide +kernel
theorem dX3_treat_107 : decode cX3_treat 107 = .ok (.aload_n 0, 1) := by decide +kernel
theorem dX3_treat_108 : decode cX3_treat 108 = .ok (.iconst 0, 1) := by decide +kernel
theorem dX3_treat_109 : decode cX3_treat 109 = .ok (.putfield 20, 3) := by decide +kernel
theorem dX3_treat_112 : decode cX3_treat 112 = .ok (.aload_n 0, 1) := by decide +kernel
theorem dX3_treat_113 : decode cX3_treat 113 = .ok (.bipush 10, 2) := by decide +kernel
theorem dX3_treat_115 : decode cX3_treat 115 = .ok (.bipush 40, 2) := by decide +kernel
theorem dX3_treat_117 : decode cX3_treat 117 = .ok (.iload_n 2, 1) := by decide +kernel
theorem dX3_treat_118 : decode cX3_treat 118 = .ok (.invokestatic 50, 3) := by decide +kernel
theorem dX3_treat_121 : decode cX3_treat 121 = .ok (.invokestatic 60, 3) := by decide +kernel
theorem dX3_treat_124 : decode cX3_treat 124 = .ok (.putfield 24, 3) := by decide +kernel
theorem dX3_treat_127 : decode cX3_treat 127 = .ok (.return_, 1) := by decide +kernel
theorem dX4_init_0 : decode cX4_init 0 = .ok (.aload_n 0, 1) := by decide +kernel
theorem dX4_init_1 : decode cX4_init 1 = .ok (.invokespecial 3, 3) := by decide +kernel
theorem dX4_init_4 : decode cX4_init 4 = .ok (.aload_n 0, 1) := by decide +kernel
theorem dX4_init_5 : decode cX4_init 5 = .ok (.iload_n 1, 1) := by decide +kernel
theorem dX4_init_6 : decode cX4_init 6 = .ok (.putfield 9, 3) := by decide +kernel
theorem dX4_init_9 : decode cX4_init 9 = .ok (.aload_n 0, 1) := by decide +kernel
theorem dX4_init_10 : decode cX4_init 10 = .ok (.iload_n 2, 1) := by decide +kernel
theorem dX4_init_11 : decode cX4_init 11 = .ok (.putfield 15, 3) := by decide +kernel
theorem dX4_init_14 : decode cX4_init 14 = .ok (.aload_n 0, 1) := by decide +kernel
theorem dX4_init_15 : decode cX4_init 15 = .ok (.iload_n 3, 1) := by decide +kernel
theorem dX4_init_16 : decode cX4_init 16 = .ok (.putfield 18, 3) := by decide +kernel
theorem dX4_init_19 : decode cX4_init 19 = .ok (.return_, 1) := by decide +kernel
theorem dX4_speed_0 : decode cX4_speed 0 = .ok (.aload_n 0, 1) := by decide +kernel
theorem dX4_speed_1 : decode cX4_speed 1 = .ok (.invokevirtual 21, 3) := by decide +kernel
theorem dX4_speed_4 : decode cX4_speed 4 = .ok (.aload_n 0, 1) := by decide +kernel
theorem dX4_speed_5 : decode cX4_speed 5 = .ok (.invokevirtual 25, 3) := by decide +kernel
theorem dX4_speed_8 : decode cX4_speed 8 = .ok (.invokestatic 28, 3) := by decide +kernel
theorem dX4_speed_11 : decode cX4_speed 11 = .ok (.istore_n 2, 1) := by decide +kernel
theorem dX4_speed_12 : decode cX4_speed 12 = .ok (.iload_n 2, 1) := by decide +kernel
theorem dX4_speed_13 : decode cX4_speed 13 = .ok (.aload_n 0, 1) := by decide +kernel
theorem dX4_speed_14 : decode cX4_speed 14 = .ok (.invokevirtual 34, 3) := by decide +kernel
theorem dX4_speed_17 : decode cX4_speed 17 = .ok (.iload_n 1, 1) := by decide +kernel
theorem dX4_speed_18 : decode cX4_speed 18 = .ok (.invokestatic 37, 3) := by decide +kernel
theorem dX4_speed_21 : decode cX4_speed 21 = .ok (.invokestatic 28, 3) := by decide +kernel
theorem dX4_speed_24 : decode cX4_speed 24 = .ok (.invokestatic 28, 3) := by decide +kernel
theorem dX4_speed_27 : decode cX4_speed 27 = .ok (.ireturn, 1) := by decide +kernel
theorem dX4_decider_0 : decode cX4_decider 0 = .ok (.aload_n 0, 1) := by decide +kernel
theorem dX4_decider_1 : decode cX4_decider 1 = .ok (.iload_n 1, 1) := by decide +kernel
theorem dX4_decider_2 : decode cX4_decider 2 = .ok (.invokevirtual 41, 3) := by decide +kernel
theorem dX4_decider_5 : decode cX4_decider 5 = .ok (.istore_n 2, 1) := by decide +kernel
theorem dX4_decider_6 : decode cX4_decider 6 = .ok (.iload_n 2, 1) := by decide +kernel
theorem dX4_decider_7 : decode cX4_decider 7 = .ok (.sipush 160, 3) := by decide +kernel
theorem dX4_decider_10 : decode cX4_decider 10 = .ok (.if_icmp .ne 5, 3) := by decide +kernel
theorem dX4_decider_13 : decode cX4_decider 13 = .ok (.iconst 0, 1) := by decide +kernel
theorem dX4_decider_14 : decode cX4_decider 14 = .ok (.ireturn, 1) := by decide +kernel
theorem dX4_decider_15 : decode cX4_decider 15 = .ok (.aload_n 0, 1) := by decide +kernel
theorem dX4_decider_16 : decode cX4_decider 16 = .ok (.invokevirtual 21, 3) := by decide +kernel
theorem dX4_decider_19 : decode cX4_decider 19 = .ok (.iload_n 2, 1) := by decide +kernel
theorem dX4_decider_20 : decode cX4_decider 20 = .ok (.if_icmp .ne 5, 3) := by decide +kernel
theorem dX4_decider_23 : decode cX4_decider 23 = .ok (.iconst 1, 1) := by decide +kernel
theorem dX4_decider_24 : decode cX4_decider 24 = .ok (.ireturn, 1) := by decide +kernel
theorem dX4_decider_25 : decode cX4_decider 25 = .ok (.aload_n 0, 1) := by decide +kernel
theorem dX4_decider_26 : decode cX4_decider 26 = .ok (.invokevirtual 25, 3) := by decide +kernel
theorem dX4_decider_29 : decode cX4_decider 29 = .ok (.iload_n 2, 1) := by decide +kernel
theorem dX4_decider_30 : decode cX4_decider 30 = .ok (.if_icmp .ne 5, 3) := by decide +kernel
theorem dX4_decider_33 : decode cX4_decider 33 = .ok (.iconst 2, 1) := by decide +kernel
theorem dX4_decider_34 : decode cX4_decider 34 = .ok (.ireturn, 1) := by decide +kernel
theorem dX4_decider_35 : decode cX4_decider 35 = .ok (.aload_n 0, 1) := by decide +kernel
theorem dX4_decider_36 : decode cX4_decider 36 = .ok (.invokevirtual 34, 3) := by decide +kernel
theorem dX4_decider_39 : decode cX4_decider 39 = .ok (.iload_n 2, 1) := by decide +kernel
theorem dX4_decider_40 : decode cX4_decider 40 = .ok (.if_icmp .ne 7, 3) := by decide +kernel
theorem dX4_decider_43 : decode cX4_decider 43 = .ok (.iconst 3, 1) := by decide +kernel
theorem dX4_decider_44 : decode cX4_decider 44 = .ok (.goto 4, 3) := by decide +kernel
theorem dX4_decider_47 : decode cX4_decider 47 = .ok (.iconst 4, 1) := by decide +kernel
theorem dX4_decider_48 : decode cX4_decider 48 = .ok (.ireturn, 1) := by decide +kernel
theorem dX4_speedByWear_0 : decode cX4_speedByWear 0 = .ok (.aload_n 0, 1) := by decide +kernel
theorem dX4_speedByWear_1 : decode cX4_speedByWear 1 = .ok (.getfield 9, 3) := by decide +kernel
theorem dX4_speedByWear_4 : decode cX4_speedByWear 4 = .ok (.bipush 60, 2) := by decide +kernel
theorem dX4_speedByWear_6 : decode cX4_speedByWear 6 = .ok (.if_icmp .ge 7, 3) := by decide +kernel
theorem dX4_speedByWear_9 : decode cX4_speedByWear 9 = .ok (.sipush 160, 3) := by decide +kernel
theorem dX4_speedByWear_12 : decode cX4_speedByWear 12 = .ok (.ireturn, 1) := by decide +kernel
theorem dX4_speedByWear_13 : decode cX4_speedByWear 13 = .ok (.aload_n 0, 1) := by decide +kernel
theorem dX4_speedByWear_14 : decode cX4_speedByWear 14 = .ok (.getfield 9, 3) := by decide +kernel
theorem dX4_speedByWear_17 : decode cX4_speedByWear 17 = .ok (.bipush 80, 2) := by decide +kernel
theorem dX4_speedByWear_19 : decode cX4_speedByWear 19 = .ok (.if_icmp .ge 6, 3) := by decide +kernel
theorem dX4_speedByWear_22 : decode cX4_speedByWear 22 = .ok (.bipush 100, 2) := by decide +kernel
theorem dX4_speedByWear_24 : decode cX4_speedByWear 24 = .ok (.ireturn, 1) := by decide +kernel
theorem dX4_speedByWear_25 : decode cX4_speedByWear 25 = .ok (.aload_n 0, 1) := by decide +kernel
theorem dX4_speedByWear_26 : decode cX4_speedByWear 26 = .ok (.getfield 9, 3) := by decide +kernel
theorem dX4_speedByWear_29 : decode cX4_speedByWear 29 = .ok (.bipush 100, 2) := by decide +kernel
theorem dX4_speedByWear_31 : decode cX4_speedByWear 31 = .ok (.if_icmp .ge 8, 3) := by decide +kernel
theorem dX4_speedByWear_34 : decode cX4_speedByWear 34 = .ok (.bipush 60, 2) := by decide +kernel
theorem dX4_speedByWear_36 : decode cX4_speedByWear 36 = .ok (.goto 5, 3) := by decide +kernel
theorem dX4_speedByWear_39 : decode cX4_speedByWear 39 = .ok (.bipush 20, 2) := by decide +kernel
theorem dX4_speedByWear_41 : decode cX4_speedByWear 41 = .ok (.ireturn, 1) := by decide +kernel
theorem dX4_speedByCrack_0 : decode cX4_speedByCrack 0 = .ok (.aload_n 0, 1) := by decide +kernel
theorem dX4_speedByCrack_1 : decode cX4_speedByCrack 1 = .ok (.getfield 15, 3) := by decide +kernel
theorem dX4_speedByCrack_4 : decode cX4_speedByCrack 4 = .ok (.bipush 10, 2) := by decide +kernel
theorem dX4_speedByCrack_6 : decode cX4_speedByCrack 6 = .ok (.if_icmp .ge 7, 3) := by decide +kernel
theorem dX4_speedByCrack_9 : decode cX4_speedByCrack 9 = .ok (.sipush 160, 3) := by decide +kernel
theorem dX4_speedByCrack_12 : decode cX4_speedByCrack 12 = .ok (.ireturn, 1) := by decide +kernel
theorem dX4_speedByCrack_13 : decode cX4_speedByCrack 13 = .ok (.aload_n 0, 1) := by decide +kernel
theorem dX4_speedByCrack_14 : decode cX4_speedByCrack 14 = .ok (.getfield 15, 3) := by decide +kernel
theorem dX4_speedByCrack_17 : decode cX4_speedByCrack 17 = .ok (.bipush 20, 2) := by decide +kernel
theorem dX4_speedByCrack_19 : decode cX4_speedByCrack 19 = .ok (.if_icmp .ge 6, 3) := by decide +kernel
theorem dX4_speedByCrack_22 : decode cX4_speedByCrack 22 = .ok (.bipush 80, 2) := by decide +kernel
theorem dX4_speedByCrack_24 : decode cX4_speedByCrack 24 = .ok (.ireturn, 1) := by decide +kernel
theorem dX4_speedByCrack_25 : decode cX4_speedByCrack 25 = .ok (.aload_n 0, 1) := by decide +kernel
theorem dX4_speedByCrack_26 : decode cX4_speedByCrack 26 = .ok (.getfield 15, 3) := by decide +kernel
theorem dX4_speedByCrack_29 : decode cX4_speedByCrack 29 = .ok (.bipush 40, 2) := by decide +kernel
theorem dX4_speedByCrack_31 : decode cX4_speedByCrack 31 = .ok (.if_icmp .ge 8, 3) := by decide +kernel
theorem dX4_speedByCrack_34 : decode cX4_speedByCrack 34 = .ok (.bipush 40, 2) := by decide +kernel
theorem dX4_speedByCrack_36 : decode cX4_speedByCrack 36 = .ok (.goto 4, 3) := by decide +kernel
theorem dX4_speedByCrack_39 : decode cX4_speedByCrack 39 = .ok (.iconst 0, 1) := by decide +kernel
theorem dX4_speedByCrack_40 : decode cX4_speedByCrack 40 = .ok (.ireturn, 1) := by decide +kernel
theorem dX4_speedBySettle_0 : decode cX4_speedBySettle 0 = .ok (.aload_n 0, 1) := by decide +kernel
theorem dX4_speedBySettle_1 : decode cX4_speedBySettle 1 = .ok (.getfield 18, 3) := by decide +kernel
theorem dX4_speedBySettle_4 : decode cX4_speedBySettle 4 = .ok (.bipush 20, 2) := by decide +kernel
theorem dX4_speedBySettle_6 : decode cX4_speedBySettle 6 = .ok (.if_icmp .ge 7, 3) := by decide +kernel
theorem dX4_speedBySettle_9 : decode cX4_speedBySettle 9 = .ok (.sipush 160, 3) := by decide +kernel
theorem dX4_speedBySettle_12 : decode cX4_speedBySettle 12 = .ok (.ireturn, 1) := by decide +kernel
theorem dX4_speedBySettle_13 : decode cX4_speedBySettle 13 = .ok (.aload_n 0, 1) := by decide +kernel
theorem dX4_speedBySettle_14 : decode cX4_speedBySettle 14 = .ok (.getfield 18, 3) := by decide +kernel
theorem dX4_speedBySettle_17 : decode cX4_speedBySettle 17 = .ok (.bipush 30, 2) := by decide +kernel
theorem dX4_speedBySettle_19 : decode cX4_speedBySettle 19 = .ok (.if_icmp .ge 6, 3) := by decide +kernel
theorem dX4_speedBySettle_22 : decode cX4_speedBySettle 22 = .ok (.bipush 120, 2) := by decide +kernel
theorem dX4_speedBySettle_24 : decode cX4_speedBySettle 24 = .ok (.ireturn, 1) := by decide +kernel
theorem dX4_speedBySettle_25 : decode cX4_speedBySettle 25 = .ok (.aload_n 0, 1) := by decide +kernel
theorem dX4_speedBySettle_26 : decode cX4_speedBySettle 26 = .ok (.getfield 18, 3) := by decide +kernel
theorem dX4_speedBySettle_29 : decode cX4_speedBySettle 29 = .ok (.bipush 40, 2) := by decide +kernel
theorem dX4_speedBySettle_31 : decode cX4_speedBySettle 31 = .ok (.if_icmp .ge 6, 3) := by decide +kernel
theorem dX4_speedBySettle_34 : decode cX4_speedBySettle 34 = .ok (.bipush 80, 2) := by decide +kernel
theorem dX4_speedBySettle_36 : decode cX4_speedBySettle 36 = .ok (.ireturn, 1) := by decide +kernel
theorem dX4_speedBySettle_37 : decode cX4_speedBySettle 37 = .ok (.aload_n 0, 1) := by decide +kernel
theorem dX4_speedBySettle_38 : decode cX4_speedBySettle 38 = .ok (.getfield 18, 3) := by decide +kernel
theorem dX4_speedBySettle_41 : decode cX4_speedBySettle 41 = .ok (.bipush 50, 2) := by decide +kernel
theorem dX4_speedBySettle_43 : decode cX4_speedBySettle 43 = .ok (.if_icmp .ge 8, 3) := by decide +kernel
theorem dX4_speedBySettle_46 : decode cX4_speedBySettle 46 = .ok (.bipush 40, 2) := by decide +kernel
theorem dX4_speedBySettle_48 : decode cX4_speedBySettle 48 = .ok (.goto 5, 3) := by decide +kernel
theorem dX4_speedBySettle_51 : decode cX4_speedBySettle 51 = .ok (.bipush 10, 2) := by decide +kernel
theorem dX4_speedBySettle_53 : decode cX4_speedBySettle 53 = .ok (.ireturn, 1) := by decide +kernel
theorem dX4_speedByHeat_0 : decode cX4_speedByHeat 0 = .ok (.iload_n 0, 1) := by decide +kernel
theorem dX4_speedByHeat_1 : decode cX4_speedByHeat 1 = .ok (.bipush 30, 2) := by decide +kernel
theorem dX4_speedByHeat_3 : decode cX4_speedByHeat 3 = .ok (.if_icmp .le 6, 3) := by decide +kernel
theorem dX4_speedByHeat_6 : decode cX4_speedByHeat 6 = .ok (.bipush 40, 2) := by decide +kernel
theorem dX4_speedByHeat_8 : decode cX4_speedByHeat 8 = .ok (.ireturn, 1) := by decide +kernel
theorem dX4_speedByHeat_9 : decode cX4_speedByHeat 9 = .ok (.iload_n 0, 1) := by decide +kernel
theorem dX4_speedByHeat_10 : decode cX4_speedByHeat 10 = .ok (.bipush 20, 2) := by decide +kernel
theorem dX4_speedByHeat_12 : decode cX4_speedByHeat 12 = .ok (.if_icmp .le 6, 3) := by decide +kernel
theorem dX4_speedByHeat_15 : decode cX4_speedByHeat 15 = .ok (.bipush 80, 2) := by decide +kernel
theorem dX4_speedByHeat_17 : decode cX4_speedByHeat 17 = .ok (.ireturn, 1) := by decide +kernel
theorem dX4_speedByHeat_18 : decode cX4_speedByHeat 18 = .ok (.iload_n 0, 1) := by decide +kernel
theorem dX4_speedByHeat_19 : decode cX4_speedByHeat 19 = .ok (.bipush (-40), 2) := by decide +kernel
theorem dX4_speedByHeat_21 : decode cX4_speedByHeat 21 = .ok (.if_icmp .ge 8, 3) := by decide +kernel
theorem dX4_speedByHeat_24 : decode cX4_speedByHeat 24 = .ok (.bipush 100, 2) := by decide +kernel
theorem dX4_speedByHeat_26 : decode cX4_speedByHeat 26 = .ok (.goto 6, 3) := by decide +kernel
theorem dX4_speedByHeat_29 : decode cX4_speedByHeat 29 = .ok (.sipush 160, 3) := by decide +kernel
theorem dX4_speedByHeat_32 : decode cX4_speedByHeat 32 = .ok (.ireturn, 1) := by decide +kernel
theorem dX5_init_0 : decode cX5_init 0 = .ok (.aload_n 0, 1) := by decide +kernel
theorem dX5_init_1 : decode cX5_init 1 = .ok (.invokespecial 1, 3) := by decide +kernel
theorem dX5_init_4 : decode cX5_init 4 = .ok (.aload_n 0, 1) := by decide +kernel
theorem dX5_init_5 : decode cX5_init 5 = .ok (.aload_n 1, 1) := by decide +kernel
theorem dX5_init_6 : decode cX5_init 6 = .ok (.putfield 7, 3) := by decide +kernel
theorem dX5_init_9 : decode cX5_init 9 = .ok (.aload_n 0, 1) := by decide +kernel
theorem dX5_init_10 : decode cX5_init 10 = .ok (.aload_n 2, 1) := by decide +kernel
theorem dX5_init_11 : decode cX5_init 11 = .ok (.putfield 13, 3) := by decide +kernel
theorem dX5_init_14 : decode cX5_init 14 = .ok (.aload_n 0, 1) := by decide +kernel
theorem dX5_init_15 : decode cX5_init 15 = .ok (.iload_n 3, 1) := by decide +kernel
theorem dX5_init_16 : decode cX5_init 16 = .ok (.putfield 17, 3) := by decide +kernel
theorem dX5_init_19 : decode cX5_init 19 = .ok (.return_, 1) := by decide +kernel
theorem dX6_init_0 : decode cX6_init 0 = .ok (.aload_n 0, 1) := by decide +kernel
theorem dX6_init_1 : decode cX6_init 1 = .ok (.invokespecial 3, 3) := by decide +kernel
theorem dX6_init_4 : decode cX6_init 4 = .ok (.aload_n 0, 1) := by decide +kernel
theorem dX6_init_5 : decode cX6_init 5 = .ok (.bipush 20, 2) := by decide +kernel
theorem dX6_init_7 : decode cX6_init 7 = .ok (.anewarray 9, 3) := by decide +kernel
theorem dX6_init_10 : decode cX6_init 10 = .ok (.putfield 11, 3) := by decide +kernel
theorem dX6_init_13 : decode cX6_init 13 = .ok (.aload_n 0, 1) := by decide +kernel
theorem dX6_init_14 : decode cX6_init 14 = .ok (.new 15, 3) := by decide +kernel
theorem dX6_init_17 : decode cX6_init 17 = .ok (.dup, 1) := by decide +kernel
theorem dX6_init_18 : decode cX6_init 18 = .ok (.invokespecial 17, 3) := by decide +kernel
theorem dX6_init_21 : decode cX6_init 21 = .ok (.putfield 18, 3) := by decide +kernel
theorem dX6_init_24 : decode cX6_init 24 = .ok (.aload_n 0, 1) := by decide +kernel
theorem dX6_init_25 : decode cX6_init 25 = .ok (.new 15, 3) := by decide +kernel
theorem dX6_init_28 : decode cX6_init 28 = .ok (.dup, 1) := by decide +kernel
theorem dX6_init_29 : decode cX6_init 29 = .ok (.invokespecial 17, 3) := by decide +kernel
theorem dX6_init_32 : decode cX6_init 32 = .ok (.putfield 22, 3) := by decide +kernel
theorem dX6_init_35 : decode cX6_init 35 = .ok (.aload_n 0, 1) := by decide +kernel
theorem dX6_init_36 : decode cX6_init 36 = .ok (.new 15, 3) := by decide +kernel
theorem dX6_init_39 : decode cX6_init 39 = .ok (.dup, 1) := by decide +kernel
theorem dX6_init_40 : decode cX6_init 40 = .ok (.invokespecial 17, 3) := by decide +kernel
theorem dX6_init_43 : decode cX6_init 43 = .ok (.putfield 25, 3) := by decide +kernel
theorem dX6_init_46 : decode cX6_init 46 = .ok (.aload_n 0, 1) := by decide +kernel
theorem dX6_init_47 : decode cX6_init 47 = .ok (.new 28, 3) := by decide +kernel
theorem dX6_init_50 : decode cX6_init 50 = .ok (.dup, 1) := by decide +kernel
theorem dX6_init_51 : decode cX6_init 51 = .ok (.iconst 0, 1) := by decide +kernel
theorem dX6_init_52 : decode cX6_init 52 = .ok (.iconst 0, 1) := by decide +kernel
theorem dX6_init_53 : decode cX6_init 53 = .ok (.iconst 0, 1) := by decide +kernel
theorem dX6_init_54 : decode cX6_init 54 = .ok (.invokespecial 30, 3) := by decide +kernel
theorem dX6_init_57 : decode cX6_init 57 = .ok (.putfield 33, 3) := by decide +kernel
theorem dX6_init_60 : decode cX6_init 60 = .ok (.aload_n 0, 1) := by decide +kernel
theorem dX6_init_61 : decode cX6_init 61 = .ok (.new 9, 3) := by decide +kernel
theorem dX6_init_64 : decode cX6_init 64 = .ok (.dup, 1) := by decide +kernel
theorem dX6_init_65 : decode cX6_init 65 = .ok (.invokespecial 37, 3) := by decide +kernel
theorem dX6_init_68 : decode cX6_init 68 = .ok (.putfield 38, 3) := by decide +kernel
theorem dX6_init_71 : decode cX6_init 71 = .ok (.aload_n 0, 1) := by decide +kernel
theorem dX6_init_72 : decode cX6_init 72 = .ok (.iconst 0, 1) := by decide +kernel
theorem dX6_init_73 : decode cX6_init 73 = .ok (.putfield 42, 3) := by decide +kernel
theorem dX6_init_76 : decode cX6_init 76 = .ok (.aload_n 0, 1) := by decide +kernel
theorem dX6_init_77 : decode cX6_init 77 = .ok (.bipush 20, 2) := by decide +kernel
theorem dX6_init_79 : decode cX6_init 79 = .ok (.putfield 46, 3) := by decide +kernel
theorem dX6_init_82 : decode cX6_init 82 = .ok (.aload_n 0, 1) := by decide +kernel
theorem dX6_init_83 : decode cX6_init 83 = .ok (.iconst 0, 1) := by decide +kernel
theorem dX6_init_84 : decode cX6_init 84 = .ok (.putfield 49, 3) := by decide +kernel
theorem dX6_init_87 : decode cX6_init 87 = .ok (.aload_n 0, 1) := by decide +kernel
theorem dX6_init_88 : decode cX6_init 88 = .ok (.iconst 0, 1) := by decide +kernel
theorem dX6_init_89 : decode cX6_init 89 = .ok (.putfield 52, 3) := by decide +kernel
theorem dX6_init_92 : decode cX6_init 92 = .ok (.aload_n 0, 1) := by decide +kernel
theorem dX6_init_93 : decode cX6_init 93 = .ok (.iconst 0, 1) := by decide +kernel
theorem dX6_init_94 : decode cX6_init 94 = .ok (.putfield 55, 3) := by decide +kernel
theorem dX6_init_97 : decode cX6_init 97 = .ok (.aload_n 0, 1) := by decide +kernel
theorem dX6_init_98 : decode cX6_init 98 = .ok (.iconst 0, 1) := by decide +kernel
theorem dX6_init_99 : decode cX6_init 99 = .ok (.putfield 58, 3) := by decide +kernel
theorem dX6_init_102 : decode cX6_init 102 = .ok (.aload_n 0, 1) := by decide +kernel
theorem dX6_init_103 : decode cX6_init 103 = .ok (.iconst 0, 1) := by decide +kernel
theorem dX6_init_104 : decode cX6_init 104 = .ok (.putfield 61, 3) := by decide +kernel
theorem dX6_init_107 : decode cX6_init 107 = .ok (.iconst 0, 1) := by decide +kernel
theorem dX6_init_108 : decode cX6_init 108 = .ok (.istore_n 1, 1) := by decide +kernel
theorem dX6_init_109 : decode cX6_init 109 = .ok (.iload_n 1, 1) := by decide +kernel
theorem dX6_init_110 : decode cX6_init 110 = .ok (.bipush 20, 2) := by decide +kernel
theorem dX6_init_112 : decode cX6_init 112 = .ok (.if_icmp .ge 22, 3) := by decide +kernel
theorem dX6_init_115 : decode cX6_init 115 = .ok (.aload_n 0, 1) := by decide +kernel
theorem dX6_init_116 : decode cX6_init 116 = .ok (.getfield 11, 3) := by decide +kernel
theorem dX6_init_119 : decode cX6_init 119 = .ok (.iload_n 1, 1) := by decide +kernel
theorem dX6_init_120 : decode cX6_init 120 = .ok (.new 9, 3) := by decide +kernel
theorem dX6_init_123 : decode cX6_init 123 = .ok (.dup, 1) := by decide +kernel
theorem dX6_init_124 : decode cX6_init 124 = .ok (.invokespecial 37, 3) := by decide +kernel
theorem dX6_init_127 : decode cX6_init 127 = .ok (.aastore, 1) := by decide +kernel
theorem dX6_init_128 : decode cX6_init 128 = .ok (.iinc 1 1, 3) := by decide +kernel
theorem dX6_init_131 : decode cX6_init 131 = .ok (.goto (-22), 3) := by decide +kernel
theorem dX6_init_134 : decode cX6_init 134 = .ok (.return_, 1) := by decide +kernel
theorem dX6_curve_0 : decode cX6_curve 0 = .ok (.aload_n 0, 1) := by decide +kernel
theorem dX6_curve_1 : decode cX6_curve 1 = .ok (.iload_n 1, 1) := by decide +kernel
theorem dX6_curve_2 : decode cX6_curve 2 = .ok (.invokevirtual 64, 3) := by decide +kernel
theorem dX6_curve_5 : decode cX6_curve 5 = .ok (.astore_n 3, 1) := by decide +kernel
theorem dX6_curve_6 : decode cX6_curve 6 = .ok (.aload_n 3, 1) := by decide +kernel
theorem dX6_curve_7 : decode cX6_curve 7 = .ok (.getfield 68, 3) := by decide +kernel
theorem dX6_curve_10 : decode cX6_curve 10 = .ok (.istore 4, 2) := by decide +kernel
theorem dX6_curve_12 : decode cX6_curve 12 = .ok (.aload_n 3, 1) := by decide +kernel
theorem dX6_curve_13 : decode cX6_curve 13 = .ok (.iload_n 2, 1) := by decide +kernel
theorem dX6_curve_14 : decode cX6_curve 14 = .ok (.putfield 68, 3) := by decide +kernel
theorem dX6_curve_17 : decode cX6_curve 17 = .ok (.iload 4, 2) := by decide +kernel
theorem dX6_curve_19 : decode cX6_curve 19 = .ok (.ireturn, 1) := by decide +kernel
theorem dX6_sign_0 : decode cX6_sign 0 = .ok (.aload_n 0, 1) := by decide +kernel
theorem dX6_sign_1 : decode cX6_sign 1 = .ok (.iload_n 1, 1) := by decide +kernel
theorem dX6_sign_2 : decode cX6_sign 2 = .ok (.invokevirtual 64, 3) := by decide +kernel
theorem dX6_sign_5 : decode cX6_sign 5 = .ok (.astore_n 3, 1) := by decide +kernel
theorem dX6_sign_6 : decode cX6_sign 6 = .ok (.iload_n 2, 1) := by decide +kernel
theorem dX6_sign_7 : decode cX6_sign 7 = .ok (.ifCond .lt 10, 3) := by decide +kernel
theorem dX6_sign_10 : decode cX6_sign 10 = .ok (.iload_n 2, 1) := by decide +kernel
theorem dX6_sign_11 : decode cX6_sign 11 = .ok (.sipush 160, 3) := by decide +kernel
theorem dX6_sign_14 : decode cX6_sign 14 = .ok (.if_icmp .le 13, 3) := by decide +kernel
theorem dX6_sign_17 : decode cX6_sign 17 = .ok (.new 72, 3) := by decide +kernel
theorem dX6_sign_20 : decode cX6_sign 20 = .ok (.dup, 1) := by decide +kernel
theorem dX6_sign_21 : decode cX6_sign 21 = .ok (.ldc 74, 2) := by decide +kernel
theorem dX6_sign_23 : decode cX6_sign 23 = .ok (.invokespecial 76, 3) := by decide +kernel
theorem dX6_sign_26 : decode cX6_sign 26 = .ok (.athrow, 1) := by decide +kernel
theorem dX6_sign_27 : decode cX6_sign 27 = .ok (.aload_n 3, 1) := by decide +kernel
theorem dX6_sign_28 : decode cX6_sign 28 = .ok (.getfield 79, 3) := by decide +kernel
theorem dX6_sign_31 : decode cX6_sign 31 = .ok (.istore 4, 2) := by decide +kernel
theorem dX6_sign_33 : decode cX6_sign 33 = .ok (.aload_n 3, 1) := by decide +kernel
theorem dX6_sign_34 : decode cX6_sign 34 = .ok (.iload_n 2, 1) := by decide +kernel
theorem dX6_sign_35 : decode cX6_sign 35 = .ok (.putfield 79, 3) := by decide +kernel
theorem dX6_sign_38 : decode cX6_sign 38 = .ok (.iload 4, 2) := by decide +kernel
theorem dX6_sign_40 : decode cX6_sign 40 = .ok (.ireturn, 1) := by decide +kernel
theorem dX6_pass_0 : decode cX6_pass 0 = .ok (.aload_n 0, 1) := by decide +kernel
theorem dX6_pass_1 : decode cX6_pass 1 = .ok (.iload_n 1, 1) := by decide +kernel
theorem dX6_pass_2 : decode cX6_pass 2 = .ok (.invokevirtual 82, 3) := by decide +kernel
theorem dX6_pass_5 : decode cX6_pass 5 = .ok (.iload_n 2, 1) := by decide +kernel
theorem dX6_pass_6 : decode cX6_pass 6 = .ok (.bipush (-20), 2) := by decide +kernel
theorem dX6_pass_8 : decode cX6_pass 8 = .ok (.if_icmp .lt 9, 3) := by decide +kernel
theorem dX6_pass_11 : decode cX6_pass 11 = .ok (.iload_n 2, 1) := by decide +kernel
theorem dX6_pass_12 : decode cX6_pass 12 = .ok (.bipush 60, 2) := by decide +kernel
theorem dX6_pass_14 : decode cX6_pass 14 = .ok (.if_icmp .le 13, 3) := by decide +kernel
theorem dX6_pass_17 : decode cX6_pass 17 = .ok (.new 72, 3) := by decide +kernel
theorem dX6_pass_20 : decode cX6_pass 20 = .ok (.dup, 1) := by decide +kernel
theorem dX6_pass_21 : decode cX6_pass 21 = .ok (.ldc 86, 2) := by decide +kernel
theorem dX6_pass_23 : decode cX6_pass 23 = .ok (.invokespecial 76, 3) := by decide +kernel
theorem dX6_pass_26 : decode cX6_pass 26 = .ok (.athrow, 1) := by decide +kernel
theorem dX6_pass_27 : decode cX6_pass 27 = .ok (.iload_n 3, 1) := by decide +kernel
theorem dX6_pass_28 : decode cX6_pass 28 = .ok (.iconst 1, 1) := by decide +kernel
theorem dX6_pass_29 : decode cX6_pass 29 = .ok (.if_icmp .lt 9, 3) := by decide +kernel
theorem dX6_pass_32 : decode cX6_pass 32 = .ok (.iload_n 3, 1) := by decide +kernel
theorem dX6_pass_33 : decode cX6_pass 33 = .ok (.bipush 60, 2) := by decide +kernel
theorem dX6_pass_35 : decode cX6_pass 35 = .ok (.if_icmp .le 13, 3) := by decide +kernel
theorem dX6_pass_38 : decode cX6_pass 38 = .ok (.new 72, 3) := by decide +kernel
theorem dX6_pass_41 : decode cX6_pass 41 = .ok (.dup, 1) := by decide +kernel
theorem dX6_pass_42 : decode cX6_pass 42 = .ok (.ldc 88, 2) := by decide +kernel
theorem dX6_pass_44 : decode cX6_pass 44 = .ok (.invokespecial 76, 3) := by decide +kernel
theorem dX6_pass_47 : decode cX6_pass 47 = .ok (.athrow, 1) := by decide +kernel
theorem dX6_pass_48 : decode cX6_pass 48 = .ok (.aload_n 0, 1) := by decide +kernel
theorem dX6_pass_49 : decode cX6_pass 49 = .ok (.getfield 42, 3) := by decide +kernel
theorem dX6_pass_52 : decode cX6_pass 52 = .ok (.iload_n 3, 1) := by decide +kernel
theorem dX6_pass_53 : decode cX6_pass 53 = .ok (.iadd, 1) := by decide +kernel
theorem dX6_pass_54 : decode cX6_pass 54 = .ok (.sipush 2000, 3) := by decide +kernel
theorem dX6_pass_57 : decode cX6_pass 57 = .ok (.if_icmp .le 13, 3) := by decide +kernel
theorem dX6_pass_60 : decode cX6_pass 60 = .ok (.new 90, 3) := by decide +kernel
theorem dX6_pass_63 : decode cX6_pass 63 = .ok (.dup, 1) := by decide +kernel
theorem dX6_pass_64 : decode cX6_pass 64 = .ok (.ldc 92, 2) := by decide +kernel
theorem dX6_pass_66 : decode cX6_pass 66 = .ok (.invokespecial 94, 3) := by decide +kernel
theorem dX6_pass_69 : decode cX6_pass 69 = .ok (.athrow, 1) := by decide +kernel
theorem dX6_pass_70 : decode cX6_pass 70 = .ok (.aload_n 0, 1) := by decide +kernel
theorem dX6_pass_71 : decode cX6_pass 71 = .ok (.getfield 52, 3) := by decide +kernel
theorem dX6_pass_74 : decode cX6_pass 74 = .ok (.istore 4, 2) := by decide +kernel
theorem dX6_pass_76 : decode cX6_pass 76 = .ok (.iconst 0, 1) := by decide +kernel
theorem dX6_pass_77 : decode cX6_pass 77 = .ok (.istore 5, 2) := by decide +kernel
theorem dX6_pass_79 : decode cX6_pass 79 = .ok (.iload 5, 2) := by decide +kernel
theorem dX6_pass_81 : decode cX6_pass 81 = .ok (.iload_n 3, 1) := by decide +kernel
theorem dX6_pass_82 : decode cX6_pass 82 = .ok (.if_icmp .ge 15, 3) := by decide +kernel
theorem dX6_pass_85 : decode cX6_pass 85 = .ok (.aload_n 0, 1) := by decide +kernel
theorem dX6_pass_86 : decode cX6_pass 86 = .ok (.iload_n 1, 1) := by decide +kernel
theorem dX6_pass_87 : decode cX6_pass 87 = .ok (.iload_n 2, 1) := by decide +kernel
theorem dX6_pass_88 : decode cX6_pass 88 = .ok (.invokevirtual 95, 3) := by decide +kernel
theorem dX6_pass_91 : decode cX6_pass 91 = .ok (.iinc 5 1, 3) := by decide +kernel
theorem dX6_pass_94 : decode cX6_pass 94 = .ok (.goto (-15), 3) := by decide +kernel
theorem dX6_pass_97 : decode cX6_pass 97 = .ok (.aload_n 0, 1) := by decide +kernel
theorem dX6_pass_98 : decode cX6_pass 98 = .ok (.getfield 52, 3) := by decide +kernel
theorem dX6_pass_101 : decode cX6_pass 101 = .ok (.iload 4, 2) := by decide +kernel
theorem dX6_pass_103 : decode cX6_pass 103 = .ok (.isub, 1) := by decide +kernel
theorem dX6_pass_104 : decode cX6_pass 104 = .ok (.ireturn, 1) := by decide +kernel
theorem dX6_measure_0 : decode cX6_measure 0 = .ok (.aload_n 0, 1) := by decide +kernel
theorem dX6_measure_1 : decode cX6_measure 1 = .ok (.iload_n 1, 1) := by decide +kernel
theorem dX6_measure_2 : decode cX6_measure 2 = .ok (.iload_n 2, 1) := by decide +kernel
theorem dX6_measure_3 : decode cX6_measure 3 = .ok (.iload_n 3, 1) := by decide +kernel
theorem dX6_measure_4 : decode cX6_measure 4 = .ok (.invokevirtual 99, 3) := by decide +kernel
theorem dX6_measure_7 : decode cX6_measure 7 = .ok (.iload 4, 2) := by decide +kernel
theorem dX6_measure_9 : decode cX6_measure 9 = .ok (.bipush (-2), 2) := by decide +kernel
theorem dX6_measure_11 : decode cX6_measure 11 = .ok (.if_icmp .lt 9, 3) := by decide +kernel
theorem dX6_measure_14 : decode cX6_measure 14 = .ok (.iload 4, 2) := by decide +kernel
theorem dX6_measure_16 : decode cX6_measure 16 = .ok (.iconst 2, 1) := by decide +kernel
theorem dX6_measure_17 : decode cX6_measure 17 = .ok (.if_icmp .le 13, 3) := by decide +kernel
theorem dX6_measure_20 : decode cX6_measure 20 = .ok (.new 72, 3) := by decide +kernel
theorem dX6_measure_23 : decode cX6_measure 23 = .ok (.dup, 1) := by decide +kernel
theorem dX6_measure_24 : decode cX6_measure 24 = .ok (.ldc 102, 2) := by decide +kernel
theorem dX6_measure_26 : decode cX6_measure 26 = .ok (.invokespecial 76, 3) := by decide +kernel
theorem dX6_measure_29 : decode cX6_measure 29 = .ok (.athrow, 1) := by decide +kernel
theorem dX6_measure_30 : decode cX6_measure 30 = .ok (.aload_n 0, 1) := by decide +kernel
theorem dX6_measure_31 : decode cX6_measure 31 = .ok (.getfield 18, 3) := by decide +kernel
theorem dX6_measure_34 : decode cX6_measure 34 = .ok (.invokevirtual 104, 3) := by decide +kernel
theorem dX6_measure_37 : decode cX6_measure 37 = .ok (.bipush 12, 2) := by decide +kernel
theorem dX6_measure_39 : decode cX6_measure 39 = .ok (.if_icmp .lt 13, 3) := by decide +kernel
theorem dX6_measure_42 : decode cX6_measure 42 = .ok (.new 90, 3) := by decide +kernel
theorem dX6_measure_45 : decode cX6_measure 45 = .ok (.dup, 1) := by decide +kernel
theorem dX6_measure_46 : decode cX6_measure 46 = .ok (.ldc 108, 2) := by decide +kernel
theorem dX6_measure_48 : decode cX6_measure 48 = .ok (.invokespecial 94, 3) := by decide +kernel
theorem dX6_measure_51 : decode cX6_measure 51 = .ok (.athrow, 1) := by decide +kernel
theorem dX6_measure_52 : decode cX6_measure 52 = .ok (.new 110, 3) := by decide +kernel
theorem dX6_measure_55 : decode cX6_measure 55 = .ok (.dup, 1) := by decide +kernel
theorem dX6_measure_56 : decode cX6_measure 56 = .ok (.iload_n 1, 1) := by decide +kernel
theorem dX6_measure_57 : decode cX6_measure 57 = .ok (.iload 4, 2) := by decide +kernel
theorem dX6_measure_59 : decode cX6_measure 59 = .ok (.invokespecial 112, 3) := by decide +kernel
theorem dX6_measure_62 : decode cX6_measure 62 = .ok (.astore 5, 2) := by decide +kernel
theorem dX6_measure_64 : decode cX6_measure 64 = .ok (.iload_n 2, 1) := by decide +kernel
theorem dX6_measure_65 : decode cX6_measure 65 = .ok (.istore 6, 2) := by decide +kernel
theorem dX6_measure_67 : decode cX6_measure 67 = .ok (.iload 6, 2) := by decide +kernel
theorem dX6_measure_69 : decode cX6_measure 69 = .ok (.iload_n 3, 1) := by decide +kernel
theorem dX6_measure_70 : decode cX6_measure 70 = .ok (.if_icmp .gt 50, 3) := by decide +kernel
theorem dX6_measure_73 : decode cX6_measure 73 = .ok (.iload 6, 2) := by decide +kernel
theorem dX6_measure_75 : decode cX6_measure 75 = .ok (.iload 4, 2) := by decide +kernel
theorem dX6_measure_77 : decode cX6_measure 77 = .ok (.iadd, 1) := by decide +kernel
theorem dX6_measure_78 : decode cX6_measure 78 = .ok (.istore 7, 2) := by decide +kernel
theorem dX6_measure_80 : decode cX6_measure 80 = .ok (.iload 7, 2) := by decide +kernel
theorem dX6_measure_82 : decode cX6_measure 82 = .ok (.ifCond .lt 32, 3) := by decide +kernel
theorem dX6_measure_85 : decode cX6_measure 85 = .ok (.iload 7, 2) := by decide +kernel
theorem dX6_measure_87 : decode cX6_measure 87 = .ok (.bipush 10, 2) := by decide +kernel
theorem dX6_measure_89 : decode cX6_measure 89 = .ok (.if_icmp .ge 25, 3) := by decide +kernel
theorem dX6_measure_92 : decode cX6_measure 92 = .ok (.aload 5, 2) := by decide +kernel
theorem dX6_measure_94 : decode cX6_measure 94 = .ok (.iload 6, 2) := by decide +kernel
theorem dX6_measure_96 : decode cX6_measure 96 = .ok (.aload_n 0, 1) := by decide +kernel
theorem dX6_measure_97 : decode cX6_measure 97 = .ok (.getfield 11, 3) := by decide +kernel
theorem dX6_measure_100 : decode cX6_measure 100 = .ok (.iload_n 1, 1) := by decide +kernel
theorem dX6_measure_101 : decode cX6_measure 101 = .ok (.bipush 10, 2) := by decide +kernel
theorem dX6_measure_103 : decode cX6_measure 103 = .ok (.imul, 1) := by decide +kernel
theorem dX6_measure_104 : decode cX6_measure 104 = .ok (.iload 7, 2) := by decide +kernel
theorem dX6_measure_106 : decode cX6_measure 106 = .ok (.iadd, 1) := by decide +kernel
theorem dX6_measure_107 : decode cX6_measure 107 = .ok (.aaload, 1) := by decide +kernel
theorem dX6_measure_108 : decode cX6_measure 108 = .ok (.getfield 114, 3) := by decide +kernel
theorem dX6_measure_111 : decode cX6_measure 111 = .ok (.invokevirtual 117, 3) := by decide +kernel
theorem dX6_measure_114 : decode cX6_measure 114 = .ok (.iinc 6 1, 3) := by decide +kernel
theorem dX6_measure_117 : decode cX6_measure 117 = .ok (.goto (-50), 3) := by decide +kernel
theorem dX6_measure_120 : decode cX6_measure 120 = .ok (.aload_n 0, 1) := by decide +kernel
theorem dX6_measure_121 : decode cX6_measure 121 = .ok (.getfield 18, 3) := by decide +kernel
theorem dX6_measure_124 : decode cX6_measure 124 = .ok (.aload 5, 2) := by decide +kernel
theorem dX6_measure_126 : decode cX6_measure 126 = .ok (.invokevirtual 121, 3) := by decide +kernel
theorem dX6_measure_129 : decode cX6_measure 129 = .ok (.pop, 1) := by decide +kernel
theorem dX6_measure_130 : decode cX6_measure 130 = .ok (.aload_n 0, 1) := by decide +kernel
theorem dX6_measure_131 : decode cX6_measure 131 = .ok (.getfield 18, 3) := by decide +kernel
theorem dX6_measure_134 : decode cX6_measure 134 = .ok (.invokevirtual 104, 3) := by decide +kernel
theorem dX6_measure_137 : decode cX6_measure 137 = .ok (.iconst 1, 1) := by decide +kernel
theorem dX6_measure_138 : decode cX6_measure 138 = .ok (.isub, 1) := by decide +kernel
theorem dX6_measure_139 : decode cX6_measure 139 = .ok (.ireturn, 1) := by decide +kernel
theorem dX6_machine_0 : decode cX6_machine 0 = .ok (.iload_n 1, 1) := by decide +kernel
theorem dX6_machine_1 : decode cX6_machine 1 = .ok (.ifCond .lt 8, 3) := by decide +kernel
theorem dX6_machine_4 : decode cX6_machine 4 = .ok (.iload_n 1, 1) := by decide +kernel
theorem dX6_machine_5 : decode cX6_machine 5 = .ok (.iconst 2, 1) := by decide +kernel
theorem dX6_machine_6 : decode cX6_machine 6 = .ok (.if_icmp .le 13, 3) := by decide +kernel
theorem dX6_machine_9 : decode cX6_machine 9 = .ok (.new 72, 3) := by decide +kernel
theorem dX6_machine_12 : decode cX6_machine 12 = .ok (.dup, 1) := by decide +kernel
theorem dX6_machine_13 : decode cX6_machine 13 = .ok (.ldc 142, 2) := by decide +kernel
theorem dX6_machine_15 : decode cX6_machine 15 = .ok (.invokespecial 76, 3) := by decide +kernel
theorem dX6_machine_18 : decode cX6_machine 18 = .ok (.athrow, 1) := by decide +kernel
theorem dX6_machine_19 : decode cX6_machine 19 = .ok (.iload_n 2, 1) := by decide +kernel
theorem dX6_machine_20 : decode cX6_machine 20 = .ok (.ifCond .lt 9, 3) := by decide +kernel
theorem dX6_machine_23 : decode cX6_machine 23 = .ok (.iload_n 2, 1) := by decide +kernel
theorem dX6_machine_24 : decode cX6_machine 24 = .ok (.bipush 99, 2) := by decide +kernel
theorem dX6_machine_26 : decode cX6_machine 26 = .ok (.if_icmp .le 13, 3) := by decide +kernel
theorem dX6_machine_29 : decode cX6_machine 29 = .ok (.new 72, 3) := by decide +kernel
theorem dX6_machine_32 : decode cX6_machine 32 = .ok (.dup, 1) := by decide +kernel
theorem dX6_machine_33 : decode cX6_machine 33 = .ok (.ldc 144, 2) := by decide +kernel
theorem dX6_machine_35 : decode cX6_machine 35 = .ok (.invokespecial 76, 3) := by decide +kernel
theorem dX6_machine_38 : decode cX6_machine 38 = .ok (.athrow, 1) := by decide +kernel
theorem dX6_machine_39 : decode cX6_machine 39 = .ok (.aload_n 0, 1) := by decide +kernel
theorem dX6_machine_40 : decode cX6_machine 40 = .ok (.getfield 22, 3) := by decide +kernel
theorem dX6_machine_43 : decode cX6_machine 43 = .ok (.invokevirtual 104, 3) := by decide +kernel
theorem dX6_machine_46 : decode cX6_machine 46 = .ok (.iconst 4, 1) := by decide +kernel
theorem dX6_machine_47 : decode cX6_machine 47 = .ok (.if_icmp .lt 13, 3) := by decide +kernel
theorem dX6_machine_50 : decode cX6_machine 50 = .ok (.new 90, 3) := by decide +kernel
theorem dX6_machine_53 : decode cX6_machine 53 = .ok (.dup, 1) := by decide +kernel
theorem dX6_machine_54 : decode cX6_machine 54 = .ok (.ldc 146, 2) := by decide +kernel
theorem dX6_machine_56 : decode cX6_machine 56 = .ok (.invokespecial 94, 3) := by decide +kernel
theorem dX6_machine_59 : decode cX6_machine 59 = .ok (.athrow, 1) := by decide +kernel
theorem dX6_machine_60 : decode cX6_machine 60 = .ok (.aload_n 0, 1) := by decide +kernel
theorem dX6_machine_61 : decode cX6_machine 61 = .ok (.getfield 22, 3) := by decide +kernel
theorem dX6_machine_64 : decode cX6_machine 64 = .ok (.new 148, 3) := by decide +kernel
theorem dX6_machine_67 : decode cX6_machine 67 = .ok (.dup, 1) := by decide +kernel
theorem dX6_machine_68 : decode cX6_machine 68 = .ok (.iload_n 1, 1) := by decide +kernel
theorem dX6_machine_69 : decode cX6_machine 69 = .ok (.iload_n 2, 1) := by decide +kernel
theorem dX6_machine_70 : decode cX6_machine 70 = .ok (.invokespecial 150, 3) := by decide +kernel
theorem dX6_machine_73 : decode cX6_machine 73 = .ok (.invokevirtual 121, 3) := by decide +kernel
theorem dX6_machine_76 : decode cX6_machine 76 = .ok (.pop, 1) := by decide +kernel
theorem dX6_machine_77 : decode cX6_machine 77 = .ok (.aload_n 0, 1) := by decide +kernel
theorem dX6_machine_78 : decode cX6_machine 78 = .ok (.getfield 22, 3) := by decide +kernel
theorem dX6_machine_81 : decode cX6_machine 81 = .ok (.invokevirtual 104, 3) := by decide +kernel
theorem dX6_machine_84 : decode cX6_machine 84 = .ok (.iconst 1, 1) := by decide +kernel
theorem dX6_machine_85 : decode cX6_machine 85 = .ok (.isub, 1) := by decide +kernel
theorem dX6_machine_86 : decode cX6_machine 86 = .ok (.ireturn, 1) := by decide +kernel
theorem dX6_book_0 : decode cX6_book 0 = .ok (.aload_n 0, 1) := by decide +kernel
theorem dX6_book_1 : decode cX6_book 1 = .ok (.iload_n 1, 1) := by decide +kernel
theorem dX6_book_2 : decode cX6_book 2 = .ok (.iload_n 2, 1) := by decide +kernel
theorem dX6_book_3 : decode cX6_book 3 = .ok (.iload_n 3, 1) := by decide +kernel
theorem dX6_book_4 : decode cX6_book 4 = .ok (.invokevirtual 99, 3) := by decide +kernel
theorem dX6_book_7 : decode cX6_book 7 = .ok (.iload 4, 2) := by decide +kernel
theorem dX6_book_9 : decode cX6_book 9 = .ok (.aload_n 0, 1) := by decide +kernel
theorem dX6_book_10 : decode cX6_book 10 = .ok (.getfield 42, 3) := by decide +kernel
theorem dX6_book_13 : decode cX6_book 13 = .ok (.iconst 5, 1) := by decide +kernel
theorem dX6_book_14 : decode cX6_book 14 = .ok (.iadd, 1) := by decide +kernel
theorem dX6_book_15 : decode cX6_book 15 = .ok (.if_icmp .lt 11, 3) := by decide +kernel
theorem dX6_book_18 : decode cX6_book 18 = .ok (.iload 4, 2) := by decide +kernel
theorem dX6_book_20 : decode cX6_book 20 = .ok (.sipush 2000, 3) := by decide +kernel
theorem dX6_book_23 : decode cX6_book 23 = .ok (.if_icmp .le 13, 3) := by decide +kernel
theorem dX6_book_26 : decode cX6_book 26 = .ok (.new 72, 3) := by decide +kernel
theorem dX6_book_29 : decode cX6_book 29 = .ok (.dup, 1) := by decide +kernel
theorem dX6_book_30 : decode cX6_book 30 = .ok (.ldc 164, 2) := by decide +kernel
theorem dX6_book_32 : decode cX6_book 32 = .ok (.invokespecial 76, 3) := by decide +kernel
theorem dX6_book_35 : decode cX6_book 35 = .ok (.athrow, 1) := by decide +kernel
theorem dX6_book_36 : decode cX6_book 36 = .ok (.iload 5, 2) := by decide +kernel
theorem dX6_book_38 : decode cX6_book 38 = .ok (.iconst 2, 1) := by decide +kernel
theorem dX6_book_39 : decode cX6_book 39 = .ok (.if_icmp .lt 10, 3) := by decide +kernel
theorem dX6_book_42 : decode cX6_book 42 = .ok (.iload 5, 2) := by decide +kernel
theorem dX6_book_44 : decode cX6_book 44 = .ok (.bipush 8, 2) := by decide +kernel
theorem dX6_book_46 : decode cX6_book 46 = .ok (.if_icmp .le 13, 3) := by decide +kernel
theorem dX6_book_49 : decode cX6_book 49 = .ok (.new 72, 3) := by decide +kernel
theorem dX6_book_52 : decode cX6_book 52 = .ok (.dup, 1) := by decide +kernel
theorem dX6_book_53 : decode cX6_book 53 = .ok (.ldc 166, 2) := by decide +kernel
theorem dX6_book_55 : decode cX6_book 55 = .ok (.invokespecial 76, 3) := by decide +kernel
theorem dX6_book_58 : decode cX6_book 58 = .ok (.athrow, 1) := by decide +kernel
