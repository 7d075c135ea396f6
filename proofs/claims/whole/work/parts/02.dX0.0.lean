theorem dX0_init_0 : decode cX0_init 0 = .ok (.aload_n 0, 1) := by decide +kernel
theorem dX0_init_1 : decode cX0_init 1 = .ok (.invokespecial 3, 3) := by decide +kernel
theorem dX0_init_4 : decode cX0_init 4 = .ok (.aload_n 0, 1) := by decide +kernel
theorem dX0_init_5 : decode cX0_init 5 = .ok (.bipush 8, 2) := by decide +kernel
theorem dX0_init_7 : decode cX0_init 7 = .ok (.newarray .int, 2) := by decide +kernel
theorem dX0_init_9 : decode cX0_init 9 = .ok (.putfield 9, 3) := by decide +kernel
theorem dX0_init_12 : decode cX0_init 12 = .ok (.aload_n 0, 1) := by decide +kernel
theorem dX0_init_13 : decode cX0_init 13 = .ok (.new 15, 3) := by decide +kernel
theorem dX0_init_16 : decode cX0_init 16 = .ok (.dup, 1) := by decide +kernel
theorem dX0_init_17 : decode cX0_init 17 = .ok (.aload_n 1, 1) := by decide +kernel
theorem dX0_init_18 : decode cX0_init 18 = .ok (.invokespecial 17, 3) := by decide +kernel
theorem dX0_init_21 : decode cX0_init 21 = .ok (.putfield 20, 3) := by decide +kernel
theorem dX0_init_24 : decode cX0_init 24 = .ok (.return_, 1) := by decide +kernel
theorem dX0_start_0 : decode cX0_start 0 = .ok (.aload_n 0, 1) := by decide +kernel
theorem dX0_start_1 : decode cX0_start 1 = .ok (.getfield 20, 3) := by decide +kernel
theorem dX0_start_4 : decode cX0_start 4 = .ok (.aload_n 1, 1) := by decide +kernel
theorem dX0_start_5 : decode cX0_start 5 = .ok (.invokevirtual 24, 3) := by decide +kernel
theorem dX0_start_8 : decode cX0_start 8 = .ok (.aload_n 0, 1) := by decide +kernel
theorem dX0_start_9 : decode cX0_start 9 = .ok (.iconst 0, 1) := by decide +kernel
theorem dX0_start_10 : decode cX0_start 10 = .ok (.putfield 28, 3) := by decide +kernel
theorem dX0_start_13 : decode cX0_start 13 = .ok (.aload_n 0, 1) := by decide +kernel
theorem dX0_start_14 : decode cX0_start 14 = .ok (.iconst 0, 1) := by decide +kernel
theorem dX0_start_15 : decode cX0_start 15 = .ok (.putfield 32, 3) := by decide +kernel
theorem dX0_start_18 : decode cX0_start 18 = .ok (.aload_n 0, 1) := by decide +kernel
theorem dX0_start_19 : decode cX0_start 19 = .ok (.iconst 0, 1) := by decide +kernel
theorem dX0_start_20 : decode cX0_start 20 = .ok (.putfield 35, 3) := by decide +kernel
theorem dX0_start_23 : decode cX0_start 23 = .ok (.return_, 1) := by decide +kernel
theorem dX0_passGust_0 : decode cX0_passGust 0 = .ok (.aload_n 0, 1) := by decide +kernel
theorem dX0_passGust_1 : decode cX0_passGust 1 = .ok (.aload_n 0, 1) := by decide +kernel
theorem dX0_passGust_2 : decode cX0_passGust 2 = .ok (.getfield 20, 3) := by decide +kernel
theorem dX0_passGust_5 : decode cX0_passGust 5 = .ok (.iload_n 1, 1) := by decide +kernel
theorem dX0_passGust_6 : decode cX0_passGust 6 = .ok (.iload_n 2, 1) := by decide +kernel
theorem dX0_passGust_7 : decode cX0_passGust 7 = .ok (.invokevirtual 38, 3) := by decide +kernel
theorem dX0_passGust_10 : decode cX0_passGust 10 = .ok (.invokevirtual 42, 3) := by decide +kernel
theorem dX0_passGust_13 : decode cX0_passGust 13 = .ok (.return_, 1) := by decide +kernel
theorem dX0_passCalms_0 : decode cX0_passCalms 0 = .ok (.iconst 0, 1) := by decide +kernel
theorem dX0_passCalms_1 : decode cX0_passCalms 1 = .ok (.istore_n 2, 1) := by decide +kernel
theorem dX0_passCalms_2 : decode cX0_passCalms 2 = .ok (.iload_n 2, 1) := by decide +kernel
theorem dX0_passCalms_3 : decode cX0_passCalms 3 = .ok (.iload_n 1, 1) := by decide +kernel
theorem dX0_passCalms_4 : decode cX0_passCalms 4 = .ok (.if_icmp .ge 40, 3) := by decide +kernel
theorem dX0_passCalms_7 : decode cX0_passCalms 7 = .ok (.aload_n 0, 1) := by decide +kernel
theorem dX0_passCalms_8 : decode cX0_passCalms 8 = .ok (.getfield 20, 3) := by decide +kernel
theorem dX0_passCalms_11 : decode cX0_passCalms 11 = .ok (.getfield 46, 3) := by decide +kernel
theorem dX0_passCalms_14 : decode cX0_passCalms 14 = .ok (.ifCond .le 30, 3) := by decide +kernel
theorem dX0_passCalms_17 : decode cX0_passCalms 17 = .ok (.aload_n 0, 1) := by decide +kernel
theorem dX0_passCalms_18 : decode cX0_passCalms 18 = .ok (.dup, 1) := by decide +kernel
theorem dX0_passCalms_19 : decode cX0_passCalms 19 = .ok (.getfield 28, 3) := by decide +kernel
theorem dX0_passCalms_22 : decode cX0_passCalms 22 = .ok (.iconst 1, 1) := by decide +kernel
theorem dX0_passCalms_23 : decode cX0_passCalms 23 = .ok (.iadd, 1) := by decide +kernel
theorem dX0_passCalms_24 : decode cX0_passCalms 24 = .ok (.putfield 28, 3) := by decide +kernel
theorem dX0_passCalms_27 : decode cX0_passCalms 27 = .ok (.aload_n 0, 1) := by decide +kernel
theorem dX0_passCalms_28 : decode cX0_passCalms 28 = .ok (.aload_n 0, 1) := by decide +kernel
theorem dX0_passCalms_29 : decode cX0_passCalms 29 = .ok (.getfield 20, 3) := by decide +kernel
theorem dX0_passCalms_32 : decode cX0_passCalms 32 = .ok (.invokevirtual 49, 3) := by decide +kernel
theorem dX0_passCalms_35 : decode cX0_passCalms 35 = .ok (.invokevirtual 42, 3) := by decide +kernel
theorem dX0_passCalms_38 : decode cX0_passCalms 38 = .ok (.iinc 2 1, 3) := by decide +kernel
theorem dX0_passCalms_41 : decode cX0_passCalms 41 = .ok (.goto (-39), 3) := by decide +kernel
theorem dX0_passCalms_44 : decode cX0_passCalms 44 = .ok (.return_, 1) := by decide +kernel
theorem dX0_note_0 : decode cX0_note 0 = .ok (.aload_n 0, 1) := by decide +kernel
theorem dX0_note_1 : decode cX0_note 1 = .ok (.getfield 20, 3) := by decide +kernel
theorem dX0_note_4 : decode cX0_note 4 = .ok (.getfield 53, 3) := by decide +kernel
theorem dX0_note_7 : decode cX0_note 7 = .ok (.iload_n 1, 1) := by decide +kernel
theorem dX0_note_8 : decode cX0_note 8 = .ok (.invokevirtual 57, 3) := by decide +kernel
theorem dX0_note_11 : decode cX0_note 11 = .ok (.ifCond .eq 33, 3) := by decide +kernel
theorem dX0_note_14 : decode cX0_note 14 = .ok (.aload_n 0, 1) := by decide +kernel
theorem dX0_note_15 : decode cX0_note 15 = .ok (.iload_n 1, 1) := by decide +kernel
theorem dX0_note_16 : decode cX0_note 16 = .ok (.invokevirtual 63, 3) := by decide +kernel
theorem dX0_note_19 : decode cX0_note 19 = .ok (.ifCond .ne 25, 3) := by decide +kernel
theorem dX0_note_22 : decode cX0_note 22 = .ok (.aload_n 0, 1) := by decide +kernel
theorem dX0_note_23 : decode cX0_note 23 = .ok (.dup, 1) := by decide +kernel
theorem dX0_note_24 : decode cX0_note 24 = .ok (.getfield 32, 3) := by decide +kernel
theorem dX0_note_27 : decode cX0_note 27 = .ok (.iconst 1, 1) := by decide +kernel
theorem dX0_note_28 : decode cX0_note 28 = .ok (.iload_n 1, 1) := by decide +kernel
theorem dX0_note_29 : decode cX0_note 29 = .ok (.ishl, 1) := by decide +kernel
theorem dX0_note_30 : decode cX0_note 30 = .ok (.ior, 1) := by decide +kernel
theorem dX0_note_31 : decode cX0_note 31 = .ok (.putfield 32, 3) := by decide +kernel
theorem dX0_note_34 : decode cX0_note 34 = .ok (.aload_n 0, 1) := by decide +kernel
theorem dX0_note_35 : decode cX0_note 35 = .ok (.getfield 9, 3) := by decide +kernel
theorem dX0_note_38 : decode cX0_note 38 = .ok (.iload_n 1, 1) := by decide +kernel
theorem dX0_note_39 : decode cX0_note 39 = .ok (.aload_n 0, 1) := by decide +kernel
theorem dX0_note_40 : decode cX0_note 40 = .ok (.getfield 28, 3) := by decide +kernel
theorem dX0_note_43 : decode cX0_note 43 = .ok (.iastore, 1) := by decide +kernel
theorem dX0_note_44 : decode cX0_note 44 = .ok (.aload_n 0, 1) := by decide +kernel
theorem dX0_note_45 : decode cX0_note 45 = .ok (.aload_n 0, 1) := by decide +kernel
theorem dX0_note_46 : decode cX0_note 46 = .ok (.getfield 35, 3) := by decide +kernel
theorem dX0_note_49 : decode cX0_note 49 = .ok (.aload_n 0, 1) := by decide +kernel
theorem dX0_note_50 : decode cX0_note 50 = .ok (.getfield 20, 3) := by decide +kernel
theorem dX0_note_53 : decode cX0_note 53 = .ok (.invokevirtual 66, 3) := by decide +kernel
theorem dX0_note_56 : decode cX0_note 56 = .ok (.invokestatic 69, 3) := by decide +kernel
theorem dX0_note_59 : decode cX0_note 59 = .ok (.putfield 35, 3) := by decide +kernel
theorem dX0_note_62 : decode cX0_note 62 = .ok (.return_, 1) := by decide +kernel
theorem dX0_hasStruck_0 : decode cX0_hasStruck 0 = .ok (.aload_n 0, 1) := by decide +kernel
theorem dX0_hasStruck_1 : decode cX0_hasStruck 1 = .ok (.getfield 32, 3) := by decide +kernel
theorem dX0_hasStruck_4 : decode cX0_hasStruck 4 = .ok (.iconst 1, 1) := by decide +kernel
theorem dX0_hasStruck_5 : decode cX0_hasStruck 5 = .ok (.iload_n 1, 1) := by decide +kernel
theorem dX0_hasStruck_6 : decode cX0_hasStruck 6 = .ok (.ishl, 1) := by decide +kernel
theorem dX0_hasStruck_7 : decode cX0_hasStruck 7 = .ok (.iand, 1) := by decide +kernel
theorem dX0_hasStruck_8 : decode cX0_hasStruck 8 = .ok (.ifCond .eq 7, 3) := by decide +kernel
theorem dX0_hasStruck_11 : decode cX0_hasStruck 11 = .ok (.iconst 1, 1) := by decide +kernel
theorem dX0_hasStruck_12 : decode cX0_hasStruck 12 = .ok (.goto 4, 3) := by decide +kernel
theorem dX0_hasStruck_15 : decode cX0_hasStruck 15 = .ok (.iconst 0, 1) := by decide +kernel
theorem dX0_hasStruck_16 : decode cX0_hasStruck 16 = .ok (.ireturn, 1) := by decide +kernel
theorem dX0_hasStruckWithin_0 : decode cX0_hasStruckWithin 0 = .ok (.aload_n 0, 1) := by decide +kernel
theorem dX0_hasStruckWithin_1 : decode cX0_hasStruckWithin 1 = .ok (.iload_n 1, 1) := by decide +kernel
theorem dX0_hasStruckWithin_2 : decode cX0_hasStruckWithin 2 = .ok (.invokevirtual 63, 3) := by decide +kernel
theorem dX0_hasStruckWithin_5 : decode cX0_hasStruckWithin 5 = .ok (.ifCond .eq 17, 3) := by decide +kernel
theorem dX0_hasStruckWithin_8 : decode cX0_hasStruckWithin 8 = .ok (.aload_n 0, 1) := by decide +kernel
theorem dX0_hasStruckWithin_9 : decode cX0_hasStruckWithin 9 = .ok (.getfield 9, 3) := by decide +kernel
theorem dX0_hasStruckWithin_12 : decode cX0_hasStruckWithin 12 = .ok (.iload_n 1, 1) := by decide +kernel
theorem dX0_hasStruckWithin_13 : decode cX0_hasStruckWithin 13 = .ok (.iaload, 1) := by decide +kernel
theorem dX0_hasStruckWithin_14 : decode cX0_hasStruckWithin 14 = .ok (.iload_n 2, 1) := by decide +kernel
theorem dX0_hasStruckWithin_15 : decode cX0_hasStruckWithin 15 = .ok (.if_icmp .gt 7, 3) := by decide +kernel
theorem dX0_hasStruckWithin_18 : decode cX0_hasStruckWithin 18 = .ok (.iconst 1, 1) := by decide +kernel
theorem dX0_hasStruckWithin_19 : decode cX0_hasStruckWithin 19 = .ok (.goto 4, 3) := by decide +kernel
theorem dX0_hasStruckWithin_22 : decode cX0_hasStruckWithin 22 = .ok (.iconst 0, 1) := by decide +kernel
theorem dX0_hasStruckWithin_23 : decode cX0_hasStruckWithin 23 = .ok (.ireturn, 1) := by decide +kernel
theorem dX0_struckCount_0 : decode cX0_struckCount 0 = .ok (.aload_n 0, 1) := by decide +kernel
theorem dX0_struckCount_1 : decode cX0_struckCount 1 = .ok (.getfield 32, 3) := by decide +kernel
theorem dX0_struckCount_4 : decode cX0_struckCount 4 = .ok (.invokestatic 74, 3) := by decide +kernel
theorem dX0_struckCount_7 : decode cX0_struckCount 7 = .ok (.ireturn, 1) := by decide +kernel
theorem dX0_mildness_0 : decode cX0_mildness 0 = .ok (.aload_n 0, 1) := by decide +kernel
theorem dX0_mildness_1 : decode cX0_mildness 1 = .ok (.getfield 32, 3) := by decide +kernel
theorem dX0_mildness_4 : decode cX0_mildness 4 = .ok (.ifCond .ne 9, 3) := by decide +kernel
theorem dX0_mildness_7 : decode cX0_mildness 7 = .ok (.sipush (-1000), 3) := by decide +kernel
theorem dX0_mildness_10 : decode cX0_mildness 10 = .ok (.goto 8, 3) := by decide +kernel
theorem dX0_mildness_13 : decode cX0_mildness 13 = .ok (.aload_n 0, 1) := by decide +kernel
theorem dX0_mildness_14 : decode cX0_mildness 14 = .ok (.getfield 35, 3) := by decide +kernel
theorem dX0_mildness_17 : decode cX0_mildness 17 = .ok (.ineg, 1) := by decide +kernel
theorem dX0_mildness_18 : decode cX0_mildness 18 = .ok (.ireturn, 1) := by decide +kernel
theorem dX0_calmsToStill_0 : decode cX0_calmsToStill 0 = .ok (.aload_n 0, 1) := by decide +kernel
theorem dX0_calmsToStill_1 : decode cX0_calmsToStill 1 = .ok (.aload_n 1, 1) := by decide +kernel
theorem dX0_calmsToStill_2 : decode cX0_calmsToStill 2 = .ok (.invokevirtual 80, 3) := by decide +kernel
theorem dX0_calmsToStill_5 : decode cX0_calmsToStill 5 = .ok (.iconst 0, 1) := by decide +kernel
theorem dX0_calmsToStill_6 : decode cX0_calmsToStill 6 = .ok (.istore_n 2, 1) := by decide +kernel
theorem dX0_calmsToStill_7 : decode cX0_calmsToStill 7 = .ok (.iload_n 2, 1) := by decide +kernel
theorem dX0_calmsToStill_8 : decode cX0_calmsToStill 8 = .ok (.bipush 60, 2) := by decide +kernel
theorem dX0_calmsToStill_10 : decode cX0_calmsToStill 10 = .ok (.if_icmp .gt 29, 3) := by decide +kernel
theorem dX0_calmsToStill_13 : decode cX0_calmsToStill 13 = .ok (.aload_n 0, 1) := by decide +kernel
theorem dX0_calmsToStill_14 : decode cX0_calmsToStill 14 = .ok (.getfield 20, 3) := by decide +kernel
theorem dX0_calmsToStill_17 : decode cX0_calmsToStill 17 = .ok (.invokevirtual 83, 3) := by decide +kernel
theorem dX0_calmsToStill_20 : decode cX0_calmsToStill 20 = .ok (.ifCond .eq 5, 3) := by decide +kernel
theorem dX0_calmsToStill_23 : decode cX0_calmsToStill 23 = .ok (.iload_n 2, 1) := by decide +kernel
theorem dX0_calmsToStill_24 : decode cX0_calmsToStill 24 = .ok (.ireturn, 1) := by decide +kernel
theorem dX0_calmsToStill_25 : decode cX0_calmsToStill 25 = .ok (.aload_n 0, 1) := by decide +kernel
theorem dX0_calmsToStill_26 : decode cX0_calmsToStill 26 = .ok (.getfield 20, 3) := by decide +kernel
theorem dX0_calmsToStill_29 : decode cX0_calmsToStill 29 = .ok (.invokevirtual 49, 3) := by decide +kernel
theorem dX0_calmsToStill_32 : decode cX0_calmsToStill 32 = .ok (.pop, 1) := by decide +kernel
theorem dX0_calmsToStill_33 : decode cX0_calmsToStill 33 = .ok (.iinc 2 1, 3) := by decide +kernel
theorem dX0_calmsToStill_36 : decode cX0_calmsToStill 36 = .ok (.goto (-29), 3) := by decide +kernel
theorem dX0_calmsToStill_39 : decode cX0_calmsToStill 39 = .ok (.bipush (-9), 2) := by decide +kernel
theorem dX0_calmsToStill_41 : decode cX0_calmsToStill 41 = .ok (.ireturn, 1) := by decide +kernel
