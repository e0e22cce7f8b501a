/-! decode rows of the methods that catch -/
theorem dL_work_6 : decode cL_work 6 = .ok (.iload_n 3, 1) := by decide +kernel
theorem dL_work_7 : decode cL_work 7 = .ok (.invokevirtual 45, 3) := by decide +kernel
theorem dL_work_10 : decode cL_work 10 = .ok (.i2l, 1) := by decide +kernel
theorem dL_work_11 : decode cL_work 11 = .ok (.lastore, 1) := by decide +kernel
theorem dL_work_12 : decode cL_work 12 = .ok (.goto 15, 3) := by decide +kernel
theorem dL_work_15 : decode cL_work 15 = .ok (.astore 5, 2) := by decide +kernel
theorem dL_work_17 : decode cL_work 17 = .ok (.iconst 1, 1) := by decide +kernel
theorem dL_work_18 : decode cL_work 18 = .ok (.ireturn, 1) := by decide +kernel
theorem dL_work_19 : decode cL_work 19 = .ok (.astore 5, 2) := by decide +kernel
theorem dL_work_21 : decode cL_work 21 = .ok (.iconst 2, 1) := by decide +kernel
theorem dL_work_22 : decode cL_work 22 = .ok (.ireturn, 1) := by decide +kernel
theorem dL_work_23 : decode cL_work 23 = .ok (.astore 5, 2) := by decide +kernel
theorem dL_work_25 : decode cL_work 25 = .ok (.iconst 3, 1) := by decide +kernel
theorem dL_work_26 : decode cL_work 26 = .ok (.ireturn, 1) := by decide +kernel
theorem dL_work_27 : decode cL_work 27 = .ok (.iconst 0, 1) := by decide +kernel
theorem dL_work_28 : decode cL_work 28 = .ok (.ireturn, 1) := by decide +kernel
theorem dL_cancel_0 : decode cL_cancel 0 = .ok (.aload_n 2, 1) := by decide +kernel
theorem dL_cancel_1 : decode cL_cancel 1 = .ok (.iconst 0, 1) := by decide +kernel
theorem dL_cancel_2 : decode cL_cancel 2 = .ok (.aload_n 0, 1) := by decide +kernel
theorem dL_cancel_3 : decode cL_cancel 3 = .ok (.iload_n 1, 1) := by decide +kernel
theorem dL_cancel_4 : decode cL_cancel 4 = .ok (.invokevirtual 48, 3) := by decide +kernel
theorem dL_cancel_7 : decode cL_cancel 7 = .ok (.i2l, 1) := by decide +kernel
theorem dL_cancel_8 : decode cL_cancel 8 = .ok (.lastore, 1) := by decide +kernel
theorem dL_cancel_9 : decode cL_cancel 9 = .ok (.goto 9, 3) := by decide +kernel
theorem dL_cancel_12 : decode cL_cancel 12 = .ok (.astore_n 3, 1) := by decide +kernel
theorem dL_cancel_13 : decode cL_cancel 13 = .ok (.iconst 1, 1) := by decide +kernel
theorem dL_cancel_14 : decode cL_cancel 14 = .ok (.ireturn, 1) := by decide +kernel
theorem dL_cancel_15 : decode cL_cancel 15 = .ok (.astore_n 3, 1) := by decide +kernel
theorem dL_cancel_16 : decode cL_cancel 16 = .ok (.iconst 2, 1) := by decide +kernel
theorem dL_cancel_17 : decode cL_cancel 17 = .ok (.ireturn, 1) := by decide +kernel
theorem dL_cancel_18 : decode cL_cancel 18 = .ok (.iconst 0, 1) := by decide +kernel
theorem dL_cancel_19 : decode cL_cancel 19 = .ok (.ireturn, 1) := by decide +kernel
theorem dL_mark_0 : decode cL_mark 0 = .ok (.aload_n 3, 1) := by decide +kernel
theorem dL_mark_1 : decode cL_mark 1 = .ok (.iconst 0, 1) := by decide +kernel
theorem dL_mark_2 : decode cL_mark 2 = .ok (.aload_n 0, 1) := by decide +kernel
theorem dL_mark_3 : decode cL_mark 3 = .ok (.iload_n 1, 1) := by decide +kernel
theorem dL_mark_4 : decode cL_mark 4 = .ok (.iload_n 2, 1) := by decide +kernel
theorem dL_mark_5 : decode cL_mark 5 = .ok (.invokevirtual 51, 3) := by decide +kernel
theorem dL_mark_8 : decode cL_mark 8 = .ok (.i2l, 1) := by decide +kernel
theorem dL_mark_9 : decode cL_mark 9 = .ok (.lastore, 1) := by decide +kernel
theorem dL_mark_10 : decode cL_mark 10 = .ok (.goto 11, 3) := by decide +kernel
theorem dL_mark_13 : decode cL_mark 13 = .ok (.astore 4, 2) := by decide +kernel
theorem dL_mark_15 : decode cL_mark 15 = .ok (.iconst 1, 1) := by decide +kernel
theorem dL_mark_16 : decode cL_mark 16 = .ok (.ireturn, 1) := by decide +kernel
theorem dL_mark_17 : decode cL_mark 17 = .ok (.astore 4, 2) := by decide +kernel
theorem dL_mark_19 : decode cL_mark 19 = .ok (.iconst 2, 1) := by decide +kernel
theorem dL_mark_20 : decode cL_mark 20 = .ok (.ireturn, 1) := by decide +kernel
theorem dL_mark_21 : decode cL_mark 21 = .ok (.iconst 0, 1) := by decide +kernel
theorem dL_mark_22 : decode cL_mark 22 = .ok (.ireturn, 1) := by decide +kernel
theorem dL_take_0 : decode cL_take 0 = .ok (.aload_n 2, 1) := by decide +kernel
theorem dL_take_1 : decode cL_take 1 = .ok (.iconst 0, 1) := by decide +kernel
theorem dL_take_2 : decode cL_take 2 = .ok (.aload_n 0, 1) := by decide +kernel
theorem dL_take_3 : decode cL_take 3 = .ok (.iload_n 1, 1) := by decide +kernel
theorem dL_take_4 : decode cL_take 4 = .ok (.invokevirtual 54, 3) := by decide +kernel
theorem dL_take_7 : decode cL_take 7 = .ok (.i2l, 1) := by decide +kernel
theorem dL_take_8 : decode cL_take 8 = .ok (.lastore, 1) := by decide +kernel
theorem dL_take_9 : decode cL_take 9 = .ok (.goto 9, 3) := by decide +kernel
theorem dL_take_12 : decode cL_take 12 = .ok (.astore_n 3, 1) := by decide +kernel
theorem dL_take_13 : decode cL_take 13 = .ok (.iconst 1, 1) := by decide +kernel
theorem dL_take_14 : decode cL_take 14 = .ok (.ireturn, 1) := by decide +kernel
theorem dL_take_15 : decode cL_take 15 = .ok (.astore_n 3, 1) := by decide +kernel
theorem dL_take_16 : decode cL_take 16 = .ok (.iconst 2, 1) := by decide +kernel
theorem dL_take_17 : decode cL_take 17 = .ok (.ireturn, 1) := by decide +kernel
theorem dL_take_18 : decode cL_take 18 = .ok (.iconst 0, 1) := by decide +kernel
theorem dL_take_19 : decode cL_take 19 = .ok (.ireturn, 1) := by decide +kernel
theorem dL_giveBack_0 : decode cL_giveBack 0 = .ok (.aload_n 2, 1) := by decide +kernel
theorem dL_giveBack_1 : decode cL_giveBack 1 = .ok (.iconst 0, 1) := by decide +kernel
theorem dL_giveBack_2 : decode cL_giveBack 2 = .ok (.aload_n 0, 1) := by decide +kernel
theorem dL_giveBack_3 : decode cL_giveBack 3 = .ok (.iload_n 1, 1) := by decide +kernel
theorem dL_giveBack_4 : decode cL_giveBack 4 = .ok (.invokevirtual 57, 3) := by decide +kernel
theorem dL_giveBack_7 : decode cL_giveBack 7 = .ok (.i2l, 1) := by decide +kernel
theorem dL_giveBack_8 : decode cL_giveBack 8 = .ok (.lastore, 1) := by decide +kernel
theorem dL_giveBack_9 : decode cL_giveBack 9 = .ok (.goto 9, 3) := by decide +kernel
theorem dL_giveBack_12 : decode cL_giveBack 12 = .ok (.astore_n 3, 1) := by decide +kernel
theorem dL_giveBack_13 : decode cL_giveBack 13 = .ok (.iconst 1, 1) := by decide +kernel
theorem dL_giveBack_14 : decode cL_giveBack 14 = .ok (.ireturn, 1) := by decide +kernel
theorem dL_giveBack_15 : decode cL_giveBack 15 = .ok (.astore_n 3, 1) := by decide +kernel
theorem dL_giveBack_16 : decode cL_giveBack 16 = .ok (.iconst 2, 1) := by decide +kernel
theorem dL_giveBack_17 : decode cL_giveBack 17 = .ok (.ireturn, 1) := by decide +kernel
theorem dL_giveBack_18 : decode cL_giveBack 18 = .ok (.iconst 0, 1) := by decide +kernel
theorem dL_giveBack_19 : decode cL_giveBack 19 = .ok (.ireturn, 1) := by decide +kernel
theorem dL_walk_0 : decode cL_walk 0 = .ok (.aload_n 3, 1) := by decide +kernel
theorem dL_walk_1 : decode cL_walk 1 = .ok (.iconst 0, 1) := by decide +kernel
theorem dL_walk_2 : decode cL_walk 2 = .ok (.aload_n 0, 1) := by decide +kernel
theorem dL_walk_3 : decode cL_walk 3 = .ok (.iload_n 1, 1) := by decide +kernel
theorem dL_walk_4 : decode cL_walk 4 = .ok (.iload_n 2, 1) := by decide +kernel
theorem dL_walk_5 : decode cL_walk 5 = .ok (.invokevirtual 60, 3) := by decide +kernel
theorem dL_walk_8 : decode cL_walk 8 = .ok (.ifCond .eq 7, 3) := by decide +kernel
theorem dL_walk_11 : decode cL_walk 11 = .ok (.lconst 1, 1) := by decide +kernel
theorem dL_walk_12 : decode cL_walk 12 = .ok (.goto 4, 3) := by decide +kernel
theorem dL_walk_15 : decode cL_walk 15 = .ok (.lconst 0, 1) := by decide +kernel
theorem dL_walk_16 : decode cL_walk 16 = .ok (.lastore, 1) := by decide +kernel
theorem dL_walk_17 : decode cL_walk 17 = .ok (.goto 11, 3) := by decide +kernel
theorem dL_walk_20 : decode cL_walk 20 = .ok (.astore 4, 2) := by decide +kernel
theorem dL_walk_22 : decode cL_walk 22 = .ok (.iconst 1, 1) := by decide +kernel
theorem dL_walk_23 : decode cL_walk 23 = .ok (.ireturn, 1) := by decide +kernel
theorem dL_walk_24 : decode cL_walk 24 = .ok (.astore 4, 2) := by decide +kernel
theorem dL_walk_26 : decode cL_walk 26 = .ok (.iconst 2, 1) := by decide +kernel
theorem dL_walk_27 : decode cL_walk 27 = .ok (.ireturn, 1) := by decide +kernel
theorem dL_walk_28 : decode cL_walk 28 = .ok (.iconst 0, 1) := by decide +kernel
theorem dL_walk_29 : decode cL_walk 29 = .ok (.ireturn, 1) := by decide +kernel
theorem dL_ofSection_0 : decode cL_ofSection 0 = .ok (.aload_n 3, 1) := by decide +kernel
theorem dL_ofSection_1 : decode cL_ofSection 1 = .ok (.iconst 0, 1) := by decide +kernel
theorem dL_ofSection_2 : decode cL_ofSection 2 = .ok (.aload_n 0, 1) := by decide +kernel
theorem dL_ofSection_3 : decode cL_ofSection 3 = .ok (.iload_n 1, 1) := by decide +kernel
theorem dL_ofSection_4 : decode cL_ofSection 4 = .ok (.iload_n 2, 1) := by decide +kernel
theorem dL_ofSection_5 : decode cL_ofSection 5 = .ok (.invokevirtual 64, 3) := by decide +kernel
theorem dL_ofSection_8 : decode cL_ofSection 8 = .ok (.i2l, 1) := by decide +kernel
theorem dL_ofSection_9 : decode cL_ofSection 9 = .ok (.lastore, 1) := by decide +kernel
theorem dL_ofSection_10 : decode cL_ofSection 10 = .ok (.goto 11, 3) := by decide +kernel
theorem dL_ofSection_13 : decode cL_ofSection 13 = .ok (.astore 4, 2) := by decide +kernel
theorem dL_ofSection_15 : decode cL_ofSection 15 = .ok (.iconst 1, 1) := by decide +kernel
theorem dL_ofSection_16 : decode cL_ofSection 16 = .ok (.ireturn, 1) := by decide +kernel
theorem dL_ofSection_17 : decode cL_ofSection 17 = .ok (.astore 4, 2) := by decide +kernel
theorem dL_ofSection_19 : decode cL_ofSection 19 = .ok (.iconst 2, 1) := by decide +kernel
theorem dL_ofSection_20 : decode cL_ofSection 20 = .ok (.ireturn, 1) := by decide +kernel
theorem dL_ofSection_21 : decode cL_ofSection 21 = .ok (.iconst 0, 1) := by decide +kernel
theorem dL_ofSection_22 : decode cL_ofSection 22 = .ok (.ireturn, 1) := by decide +kernel
theorem dL_known_0 : decode cL_known 0 = .ok (.aload_n 3, 1) := by decide +kernel
theorem dL_known_1 : decode cL_known 1 = .ok (.iconst 0, 1) := by decide +kernel
theorem dL_known_2 : decode cL_known 2 = .ok (.aload_n 0, 1) := by decide +kernel
theorem dL_known_3 : decode cL_known 3 = .ok (.iload_n 1, 1) := by decide +kernel
theorem dL_known_4 : decode cL_known 4 = .ok (.iload_n 2, 1) := by decide +kernel
theorem dL_known_5 : decode cL_known 5 = .ok (.invokevirtual 67, 3) := by decide +kernel
theorem dL_known_8 : decode cL_known 8 = .ok (.i2l, 1) := by decide +kernel
theorem dL_known_9 : decode cL_known 9 = .ok (.lastore, 1) := by decide +kernel
theorem dL_known_10 : decode cL_known 10 = .ok (.goto 11, 3) := by decide +kernel
theorem dL_known_13 : decode cL_known 13 = .ok (.astore 4, 2) := by decide +kernel
theorem dL_known_15 : decode cL_known 15 = .ok (.iconst 1, 1) := by decide +kernel
theorem dL_known_16 : decode cL_known 16 = .ok (.ireturn, 1) := by decide +kernel
theorem dL_known_17 : decode cL_known 17 = .ok (.astore 4, 2) := by decide +kernel
theorem dL_known_19 : decode cL_known 19 = .ok (.iconst 2, 1) := by decide +kernel
theorem dL_known_20 : decode cL_known 20 = .ok (.ireturn, 1) := by decide +kernel
theorem dL_known_21 : decode cL_known 21 = .ok (.iconst 0, 1) := by decide +kernel
theorem dL_known_22 : decode cL_known 22 = .ok (.ireturn, 1) := by decide +kernel
theorem dL_why_0 : decode cL_why 0 = .ok (.aload_n 3, 1) := by decide +kernel
theorem dL_why_1 : decode cL_why 1 = .ok (.iconst 0, 1) := by decide +kernel
theorem dL_why_2 : decode cL_why 2 = .ok (.aload_n 0, 1) := by decide +kernel
theorem dL_why_3 : decode cL_why 3 = .ok (.iload_n 1, 1) := by decide +kernel
theorem dL_why_4 : decode cL_why 4 = .ok (.iload_n 2, 1) := by decide +kernel
theorem dL_why_5 : decode cL_why 5 = .ok (.invokevirtual 70, 3) := by decide +kernel
theorem dL_why_8 : decode cL_why 8 = .ok (.i2l, 1) := by decide +kernel
theorem dL_why_9 : decode cL_why 9 = .ok (.lastore, 1) := by decide +kernel
theorem dL_why_10 : decode cL_why 10 = .ok (.goto 7, 3) := by decide +kernel
theorem dL_why_13 : decode cL_why 13 = .ok (.astore 4, 2) := by decide +kernel
theorem dL_why_15 : decode cL_why 15 = .ok (.iconst 1, 1) := by decide +kernel
theorem dL_why_16 : decode cL_why 16 = .ok (.ireturn, 1) := by decide +kernel
theorem dL_why_17 : decode cL_why 17 = .ok (.iconst 0, 1) := by decide +kernel
theorem dL_why_18 : decode cL_why 18 = .ok (.ireturn, 1) := by decide +kernel
theorem dL_ofMachine_0 : decode cL_ofMachine 0 = .ok (.aload_n 3, 1) := by decide +kernel
theorem dL_ofMachine_1 : decode cL_ofMachine 1 = .ok (.iconst 0, 1) := by decide +kernel
theorem dL_ofMachine_2 : decode cL_ofMachine 2 = .ok (.aload_n 0, 1) := by decide +kernel
theorem dL_ofMachine_3 : decode cL_ofMachine 3 = .ok (.iload_n 1, 1) := by decide +kernel
theorem dL_ofMachine_4 : decode cL_ofMachine 4 = .ok (.iload_n 2, 1) := by decide +kernel
theorem dL_ofMachine_5 : decode cL_ofMachine 5 = .ok (.invokevirtual 74, 3) := by decide +kernel
theorem dL_ofMachine_8 : decode cL_ofMachine 8 = .ok (.i2l, 1) := by decide +kernel
theorem dL_ofMachine_9 : decode cL_ofMachine 9 = .ok (.lastore, 1) := by decide +kernel
theorem dL_ofMachine_10 : decode cL_ofMachine 10 = .ok (.goto 11, 3) := by decide +kernel
theorem dL_ofMachine_13 : decode cL_ofMachine 13 = .ok (.astore 4, 2) := by decide +kernel
theorem dL_ofMachine_15 : decode cL_ofMachine 15 = .ok (.iconst 1, 1) := by decide +kernel
theorem dL_ofMachine_16 : decode cL_ofMachine 16 = .ok (.ireturn, 1) := by decide +kernel
theorem dL_ofMachine_17 : decode cL_ofMachine 17 = .ok (.astore 4, 2) := by decide +kernel
theorem dL_ofMachine_19 : decode cL_ofMachine 19 = .ok (.iconst 2, 1) := by decide +kernel
theorem dL_ofMachine_20 : decode cL_ofMachine 20 = .ok (.ireturn, 1) := by decide +kernel
theorem dL_ofMachine_21 : decode cL_ofMachine 21 = .ok (.iconst 0, 1) := by decide +kernel
theorem dL_ofMachine_22 : decode cL_ofMachine 22 = .ok (.ireturn, 1) := by decide +kernel
theorem dL_ofPossession_0 : decode cL_ofPossession 0 = .ok (.aload_n 3, 1) := by decide +kernel
theorem dL_ofPossession_1 : decode cL_ofPossession 1 = .ok (.iconst 0, 1) := by decide +kernel
theorem dL_ofPossession_2 : decode cL_ofPossession 2 = .ok (.aload_n 0, 1) := by decide +kernel
theorem dL_ofPossession_3 : decode cL_ofPossession 3 = .ok (.iload_n 1, 1) := by decide +kernel
theorem dL_ofPossession_4 : decode cL_ofPossession 4 = .ok (.iload_n 2, 1) := by decide +kernel
theorem dL_ofPossession_5 : decode cL_ofPossession 5 = .ok (.invokevirtual 77, 3) := by decide +kernel
theorem dL_ofPossession_8 : decode cL_ofPossession 8 = .ok (.i2l, 1) := by decide +kernel
theorem dL_ofPossession_9 : decode cL_ofPossession 9 = .ok (.lastore, 1) := by decide +kernel
theorem dL_ofPossession_10 : decode cL_ofPossession 10 = .ok (.goto 11, 3) := by decide +kernel
theorem dL_ofPossession_13 : decode cL_ofPossession 13 = .ok (.astore 4, 2) := by decide +kernel
theorem dL_ofPossession_15 : decode cL_ofPossession 15 = .ok (.iconst 1, 1) := by decide +kernel
theorem dL_ofPossession_16 : decode cL_ofPossession 16 = .ok (.ireturn, 1) := by decide +kernel
theorem dL_ofPossession_17 : decode cL_ofPossession 17 = .ok (.astore 4, 2) := by decide +kernel
theorem dL_ofPossession_19 : decode cL_ofPossession 19 = .ok (.iconst 2, 1) := by decide +kernel
theorem dL_ofPossession_20 : decode cL_ofPossession 20 = .ok (.ireturn, 1) := by decide +kernel
theorem dL_ofPossession_21 : decode cL_ofPossession 21 = .ok (.iconst 0, 1) := by decide +kernel
theorem dL_ofPossession_22 : decode cL_ofPossession 22 = .ok (.ireturn, 1) := by decide +kernel
theorem dL_many_0 : decode cL_many 0 = .ok (.aload_n 2, 1) := by decide +kernel
theorem dL_many_1 : decode cL_many 1 = .ok (.iconst 0, 1) := by decide +kernel
theorem dL_many_2 : decode cL_many 2 = .ok (.aload_n 0, 1) := by decide +kernel
theorem dL_many_3 : decode cL_many 3 = .ok (.iload_n 1, 1) := by decide +kernel
theorem dL_many_4 : decode cL_many 4 = .ok (.invokevirtual 80, 3) := by decide +kernel
theorem dL_many_7 : decode cL_many 7 = .ok (.i2l, 1) := by decide +kernel
theorem dL_many_8 : decode cL_many 8 = .ok (.lastore, 1) := by decide +kernel
theorem dL_many_9 : decode cL_many 9 = .ok (.goto 6, 3) := by decide +kernel
theorem dL_many_12 : decode cL_many 12 = .ok (.astore_n 3, 1) := by decide +kernel
theorem dL_many_13 : decode cL_many 13 = .ok (.iconst 1, 1) := by decide +kernel
theorem dL_many_14 : decode cL_many 14 = .ok (.ireturn, 1) := by decide +kernel
theorem dL_many_15 : decode cL_many 15 = .ok (.iconst 0, 1) := by decide +kernel
theorem dL_many_16 : decode cL_many 16 = .ok (.ireturn, 1) := by decide +kernel
theorem dL_meanWear_0 : decode cL_meanWear 0 = .ok (.aload_n 2, 1) := by decide +kernel
theorem dL_meanWear_1 : decode cL_meanWear 1 = .ok (.iconst 0, 1) := by decide +kernel
theorem dL_meanWear_2 : decode cL_meanWear 2 = .ok (.aload_n 0, 1) := by decide +kernel
theorem dL_meanWear_3 : decode cL_meanWear 3 = .ok (.iload_n 1, 1) := by decide +kernel
theorem dL_meanWear_4 : decode cL_meanWear 4 = .ok (.invokevirtual 83, 3) := by decide +kernel
theorem dL_meanWear_7 : decode cL_meanWear 7 = .ok (.dastore, 1) := by decide +kernel
theorem dL_meanWear_8 : decode cL_meanWear 8 = .ok (.goto 6, 3) := by decide +kernel
theorem dL_meanWear_11 : decode cL_meanWear 11 = .ok (.astore_n 3, 1) := by decide +kernel
theorem dL_meanWear_12 : decode cL_meanWear 12 = .ok (.iconst 1, 1) := by decide +kernel
theorem dL_meanWear_13 : decode cL_meanWear 13 = .ok (.ireturn, 1) := by decide +kernel
theorem dL_meanWear_14 : decode cL_meanWear 14 = .ok (.iconst 0, 1) := by decide +kernel
theorem dL_meanWear_15 : decode cL_meanWear 15 = .ok (.ireturn, 1) := by decide +kernel
theorem dL_couldSee_0 : decode cL_couldSee 0 = .ok (.aload_n 2, 1) := by decide +kernel
theorem dL_couldSee_1 : decode cL_couldSee 1 = .ok (.iconst 0, 1) := by decide +kernel
theorem dL_couldSee_2 : decode cL_couldSee 2 = .ok (.aload_n 0, 1) := by decide +kernel
theorem dL_couldSee_3 : decode cL_couldSee 3 = .ok (.iload_n 1, 1) := by decide +kernel
theorem dL_couldSee_4 : decode cL_couldSee 4 = .ok (.invokevirtual 87, 3) := by decide +kernel
theorem dL_couldSee_7 : decode cL_couldSee 7 = .ok (.i2l, 1) := by decide +kernel
theorem dL_couldSee_8 : decode cL_couldSee 8 = .ok (.lastore, 1) := by decide +kernel
theorem dL_couldSee_9 : decode cL_couldSee 9 = .ok (.goto 6, 3) := by decide +kernel
theorem dL_couldSee_12 : decode cL_couldSee 12 = .ok (.astore_n 3, 1) := by decide +kernel
theorem dL_couldSee_13 : decode cL_couldSee 13 = .ok (.iconst 1, 1) := by decide +kernel
theorem dL_couldSee_14 : decode cL_couldSee 14 = .ok (.ireturn, 1) := by decide +kernel
theorem dL_couldSee_15 : decode cL_couldSee 15 = .ok (.iconst 0, 1) := by decide +kernel
theorem dL_couldSee_16 : decode cL_couldSee 16 = .ok (.ireturn, 1) := by decide +kernel
theorem dL_firstRisk_0 : decode cL_firstRisk 0 = .ok (.aload_n 3, 1) := by decide +kernel
theorem dL_firstRisk_1 : decode cL_firstRisk 1 = .ok (.iconst 0, 1) := by decide +kernel
theorem dL_firstRisk_2 : decode cL_firstRisk 2 = .ok (.aload_n 0, 1) := by decide +kernel
theorem dL_firstRisk_3 : decode cL_firstRisk 3 = .ok (.iload_n 1, 1) := by decide +kernel
theorem dL_firstRisk_4 : decode cL_firstRisk 4 = .ok (.iload_n 2, 1) := by decide +kernel
theorem dL_firstRisk_5 : decode cL_firstRisk 5 = .ok (.invokevirtual 90, 3) := by decide +kernel
theorem dL_firstRisk_8 : decode cL_firstRisk 8 = .ok (.i2l, 1) := by decide +kernel
theorem dL_firstRisk_9 : decode cL_firstRisk 9 = .ok (.lastore, 1) := by decide +kernel
theorem dL_firstRisk_10 : decode cL_firstRisk 10 = .ok (.goto 11, 3) := by decide +kernel
theorem dL_firstRisk_13 : decode cL_firstRisk 13 = .ok (.astore 4, 2) := by decide +kernel
theorem dL_firstRisk_15 : decode cL_firstRisk 15 = .ok (.iconst 1, 1) := by decide +kernel
theorem dL_firstRisk_16 : decode cL_firstRisk 16 = .ok (.ireturn, 1) := by decide +kernel
theorem dL_firstRisk_17 : decode cL_firstRisk 17 = .ok (.astore 4, 2) := by decide +kernel
theorem dL_firstRisk_19 : decode cL_firstRisk 19 = .ok (.iconst 2, 1) := by decide +kernel
theorem dL_firstRisk_20 : decode cL_firstRisk 20 = .ok (.ireturn, 1) := by decide +kernel
theorem dL_firstRisk_21 : decode cL_firstRisk 21 = .ok (.iconst 0, 1) := by decide +kernel
theorem dL_firstRisk_22 : decode cL_firstRisk 22 = .ok (.ireturn, 1) := by decide +kernel
theorem dL_bestWork_0 : decode cL_bestWork 0 = .ok (.aload 4, 2) := by decide +kernel
theorem dL_bestWork_2 : decode cL_bestWork 2 = .ok (.iconst 0, 1) := by decide +kernel
theorem dL_bestWork_3 : decode cL_bestWork 3 = .ok (.aload_n 0, 1) := by decide +kernel
theorem dL_bestWork_4 : decode cL_bestWork 4 = .ok (.iload_n 1, 1) := by decide +kernel
theorem dL_bestWork_5 : decode cL_bestWork 5 = .ok (.iload_n 2, 1) := by decide +kernel
theorem dL_bestWork_6 : decode cL_bestWork 6 = .ok (.iload_n 3, 1) := by decide +kernel
theorem dL_bestWork_7 : decode cL_bestWork 7 = .ok (.invokevirtual 93, 3) := by decide +kernel
theorem dL_bestWork_10 : decode cL_bestWork 10 = .ok (.i2l, 1) := by decide +kernel
theorem dL_bestWork_11 : decode cL_bestWork 11 = .ok (.lastore, 1) := by decide +kernel
theorem dL_bestWork_12 : decode cL_bestWork 12 = .ok (.goto 11, 3) := by decide +kernel
theorem dL_bestWork_15 : decode cL_bestWork 15 = .ok (.astore 5, 2) := by decide +kernel
theorem dL_bestWork_17 : decode cL_bestWork 17 = .ok (.iconst 1, 1) := by decide +kernel
theorem dL_bestWork_18 : decode cL_bestWork 18 = .ok (.ireturn, 1) := by decide +kernel
theorem dL_bestWork_19 : decode cL_bestWork 19 = .ok (.astore 5, 2) := by decide +kernel
theorem dL_bestWork_21 : decode cL_bestWork 21 = .ok (.iconst 2, 1) := by decide +kernel
theorem dL_bestWork_22 : decode cL_bestWork 22 = .ok (.ireturn, 1) := by decide +kernel
theorem dL_bestWork_23 : decode cL_bestWork 23 = .ok (.iconst 0, 1) := by decide +kernel
theorem dL_bestWork_24 : decode cL_bestWork 24 = .ok (.ireturn, 1) := by decide +kernel
theorem dL_freeDay_0 : decode cL_freeDay 0 = .ok (.aload 4, 2) := by decide +kernel
theorem dL_freeDay_2 : decode cL_freeDay 2 = .ok (.iconst 0, 1) := by decide +kernel
theorem dL_freeDay_3 : decode cL_freeDay 3 = .ok (.aload_n 0, 1) := by decide +kernel
theorem dL_freeDay_4 : decode cL_freeDay 4 = .ok (.iload_n 1, 1) := by decide +kernel
theorem dL_freeDay_5 : decode cL_freeDay 5 = .ok (.iload_n 2, 1) := by decide +kernel
theorem dL_freeDay_6 : decode cL_freeDay 6 = .ok (.iload_n 3, 1) := by decide +kernel
theorem dL_freeDay_7 : decode cL_freeDay 7 = .ok (.invokevirtual 96, 3) := by decide +kernel
theorem dL_freeDay_10 : decode cL_freeDay 10 = .ok (.i2l, 1) := by decide +kernel
theorem dL_freeDay_11 : decode cL_freeDay 11 = .ok (.lastore, 1) := by decide +kernel
theorem dL_freeDay_12 : decode cL_freeDay 12 = .ok (.goto 11, 3) := by decide +kernel
theorem dL_freeDay_15 : decode cL_freeDay 15 = .ok (.astore 5, 2) := by decide +kernel
theorem dL_freeDay_17 : decode cL_freeDay 17 = .ok (.iconst 1, 1) := by decide +kernel
theorem dL_freeDay_18 : decode cL_freeDay 18 = .ok (.ireturn, 1) := by decide +kernel
theorem dL_freeDay_19 : decode cL_freeDay 19 = .ok (.astore 5, 2) := by decide +kernel
theorem dL_freeDay_21 : decode cL_freeDay 21 = .ok (.iconst 2, 1) := by decide +kernel
theorem dL_freeDay_22 : decode cL_freeDay 22 = .ok (.ireturn, 1) := by decide +kernel
theorem dL_freeDay_23 : decode cL_freeDay 23 = .ok (.iconst 0, 1) := by decide +kernel
theorem dL_freeDay_24 : decode cL_freeDay 24 = .ok (.ireturn, 1) := by decide +kernel
theorem dL_wouldOverrun_0 : decode cL_wouldOverrun 0 = .ok (.aload_n 2, 1) := by decide +kernel
theorem dL_wouldOverrun_1 : decode cL_wouldOverrun 1 = .ok (.iconst 0, 1) := by decide +kernel
theorem dL_wouldOverrun_2 : decode cL_wouldOverrun 2 = .ok (.aload_n 0, 1) := by decide +kernel
theorem dL_wouldOverrun_3 : decode cL_wouldOverrun 3 = .ok (.iload_n 1, 1) := by decide +kernel
theorem dL_wouldOverrun_4 : decode cL_wouldOverrun 4 = .ok (.invokevirtual 99, 3) := by decide +kernel
theorem dL_wouldOverrun_7 : decode cL_wouldOverrun 7 = .ok (.i2l, 1) := by decide +kernel
theorem dL_wouldOverrun_8 : decode cL_wouldOverrun 8 = .ok (.lastore, 1) := by decide +kernel
theorem dL_wouldOverrun_9 : decode cL_wouldOverrun 9 = .ok (.goto 9, 3) := by decide +kernel
theorem dL_wouldOverrun_12 : decode cL_wouldOverrun 12 = .ok (.astore_n 3, 1) := by decide +kernel
theorem dL_wouldOverrun_13 : decode cL_wouldOverrun 13 = .ok (.iconst 1, 1) := by decide +kernel
theorem dL_wouldOverrun_14 : decode cL_wouldOverrun 14 = .ok (.ireturn, 1) := by decide +kernel
theorem dL_wouldOverrun_15 : decode cL_wouldOverrun 15 = .ok (.astore_n 3, 1) := by decide +kernel
theorem dL_wouldOverrun_16 : decode cL_wouldOverrun 16 = .ok (.iconst 2, 1) := by decide +kernel
theorem dL_wouldOverrun_17 : decode cL_wouldOverrun 17 = .ok (.ireturn, 1) := by decide +kernel
theorem dL_wouldOverrun_18 : decode cL_wouldOverrun 18 = .ok (.iconst 0, 1) := by decide +kernel
theorem dL_wouldOverrun_19 : decode cL_wouldOverrun 19 = .ok (.ireturn, 1) := by decide +kernel
