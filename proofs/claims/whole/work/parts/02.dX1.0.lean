theorem dX1_init_0 : decode cX1_init 0 = .ok (.aload_n 0, 1) := by decide +kernel
theorem dX1_init_1 : decode cX1_init 1 = .ok (.invokespecial 3, 3) := by decide +kernel
theorem dX1_init_4 : decode cX1_init 4 = .ok (.aload_n 0, 1) := by decide +kernel
theorem dX1_init_5 : decode cX1_init 5 = .ok (.bipush 8, 2) := by decide +kernel
theorem dX1_init_7 : decode cX1_init 7 = .ok (.newarray .int, 2) := by decide +kernel
theorem dX1_init_9 : decode cX1_init 9 = .ok (.putfield 9, 3) := by decide +kernel
theorem dX1_init_12 : decode cX1_init 12 = .ok (.aload_n 0, 1) := by decide +kernel
theorem dX1_init_13 : decode cX1_init 13 = .ok (.bipush 8, 2) := by decide +kernel
theorem dX1_init_15 : decode cX1_init 15 = .ok (.newarray .int, 2) := by decide +kernel
theorem dX1_init_17 : decode cX1_init 17 = .ok (.putfield 15, 3) := by decide +kernel
theorem dX1_init_20 : decode cX1_init 20 = .ok (.aload_n 0, 1) := by decide +kernel
theorem dX1_init_21 : decode cX1_init 21 = .ok (.aload_n 1, 1) := by decide +kernel
theorem dX1_init_22 : decode cX1_init 22 = .ok (.putfield 18, 3) := by decide +kernel
theorem dX1_init_25 : decode cX1_init 25 = .ok (.return_, 1) := by decide +kernel
theorem dX1_start_0 : decode cX1_start 0 = .ok (.aload_n 0, 1) := by decide +kernel
theorem dX1_start_1 : decode cX1_start 1 = .ok (.iconst 0, 1) := by decide +kernel
theorem dX1_start_2 : decode cX1_start 2 = .ok (.putfield 22, 3) := by decide +kernel
theorem dX1_start_5 : decode cX1_start 5 = .ok (.aload_n 0, 1) := by decide +kernel
theorem dX1_start_6 : decode cX1_start 6 = .ok (.iconst 0, 1) := by decide +kernel
theorem dX1_start_7 : decode cX1_start 7 = .ok (.putfield 26, 3) := by decide +kernel
theorem dX1_start_10 : decode cX1_start 10 = .ok (.aload_n 0, 1) := by decide +kernel
theorem dX1_start_11 : decode cX1_start 11 = .ok (.iconst 0, 1) := by decide +kernel
theorem dX1_start_12 : decode cX1_start 12 = .ok (.putfield 29, 3) := by decide +kernel
theorem dX1_start_15 : decode cX1_start 15 = .ok (.iconst 0, 1) := by decide +kernel
theorem dX1_start_16 : decode cX1_start 16 = .ok (.istore_n 1, 1) := by decide +kernel
theorem dX1_start_17 : decode cX1_start 17 = .ok (.iload_n 1, 1) := by decide +kernel
theorem dX1_start_18 : decode cX1_start 18 = .ok (.bipush 8, 2) := by decide +kernel
theorem dX1_start_20 : decode cX1_start 20 = .ok (.if_icmp .ge 23, 3) := by decide +kernel
theorem dX1_start_23 : decode cX1_start 23 = .ok (.aload_n 0, 1) := by decide +kernel
theorem dX1_start_24 : decode cX1_start 24 = .ok (.getfield 9, 3) := by decide +kernel
theorem dX1_start_27 : decode cX1_start 27 = .ok (.iload_n 1, 1) := by decide +kernel
theorem dX1_start_28 : decode cX1_start 28 = .ok (.iload_n 1, 1) := by decide +kernel
theorem dX1_start_29 : decode cX1_start 29 = .ok (.iastore, 1) := by decide +kernel
theorem dX1_start_30 : decode cX1_start 30 = .ok (.aload_n 0, 1) := by decide +kernel
theorem dX1_start_31 : decode cX1_start 31 = .ok (.getfield 15, 3) := by decide +kernel
theorem dX1_start_34 : decode cX1_start 34 = .ok (.iload_n 1, 1) := by decide +kernel
theorem dX1_start_35 : decode cX1_start 35 = .ok (.iconst 0, 1) := by decide +kernel
theorem dX1_start_36 : decode cX1_start 36 = .ok (.iastore, 1) := by decide +kernel
theorem dX1_start_37 : decode cX1_start 37 = .ok (.iinc 1 1, 3) := by decide +kernel
theorem dX1_start_40 : decode cX1_start 40 = .ok (.goto (-23), 3) := by decide +kernel
theorem dX1_start_43 : decode cX1_start 43 = .ok (.return_, 1) := by decide +kernel
theorem dX1_copy_0 : decode cX1_copy 0 = .ok (.aload_n 0, 1) := by decide +kernel
theorem dX1_copy_1 : decode cX1_copy 1 = .ok (.aload_n 1, 1) := by decide +kernel
theorem dX1_copy_2 : decode cX1_copy 2 = .ok (.getfield 22, 3) := by decide +kernel
theorem dX1_copy_5 : decode cX1_copy 5 = .ok (.putfield 22, 3) := by decide +kernel
theorem dX1_copy_8 : decode cX1_copy 8 = .ok (.aload_n 0, 1) := by decide +kernel
theorem dX1_copy_9 : decode cX1_copy 9 = .ok (.aload_n 1, 1) := by decide +kernel
theorem dX1_copy_10 : decode cX1_copy 10 = .ok (.getfield 26, 3) := by decide +kernel
theorem dX1_copy_13 : decode cX1_copy 13 = .ok (.putfield 26, 3) := by decide +kernel
theorem dX1_copy_16 : decode cX1_copy 16 = .ok (.aload_n 0, 1) := by decide +kernel
theorem dX1_copy_17 : decode cX1_copy 17 = .ok (.aload_n 1, 1) := by decide +kernel
theorem dX1_copy_18 : decode cX1_copy 18 = .ok (.getfield 29, 3) := by decide +kernel
theorem dX1_copy_21 : decode cX1_copy 21 = .ok (.putfield 29, 3) := by decide +kernel
theorem dX1_copy_24 : decode cX1_copy 24 = .ok (.iconst 0, 1) := by decide +kernel
theorem dX1_copy_25 : decode cX1_copy 25 = .ok (.istore_n 2, 1) := by decide +kernel
theorem dX1_copy_26 : decode cX1_copy 26 = .ok (.iload_n 2, 1) := by decide +kernel
theorem dX1_copy_27 : decode cX1_copy 27 = .ok (.bipush 8, 2) := by decide +kernel
theorem dX1_copy_29 : decode cX1_copy 29 = .ok (.if_icmp .ge 33, 3) := by decide +kernel
theorem dX1_copy_32 : decode cX1_copy 32 = .ok (.aload_n 0, 1) := by decide +kernel
theorem dX1_copy_33 : decode cX1_copy 33 = .ok (.getfield 9, 3) := by decide +kernel
theorem dX1_copy_36 : decode cX1_copy 36 = .ok (.iload_n 2, 1) := by decide +kernel
theorem dX1_copy_37 : decode cX1_copy 37 = .ok (.aload_n 1, 1) := by decide +kernel
theorem dX1_copy_38 : decode cX1_copy 38 = .ok (.getfield 9, 3) := by decide +kernel
theorem dX1_copy_41 : decode cX1_copy 41 = .ok (.iload_n 2, 1) := by decide +kernel
theorem dX1_copy_42 : decode cX1_copy 42 = .ok (.iaload, 1) := by decide +kernel
theorem dX1_copy_43 : decode cX1_copy 43 = .ok (.iastore, 1) := by decide +kernel
theorem dX1_copy_44 : decode cX1_copy 44 = .ok (.aload_n 0, 1) := by decide +kernel
theorem dX1_copy_45 : decode cX1_copy 45 = .ok (.getfield 15, 3) := by decide +kernel
theorem dX1_copy_48 : decode cX1_copy 48 = .ok (.iload_n 2, 1) := by decide +kernel
theorem dX1_copy_49 : decode cX1_copy 49 = .ok (.aload_n 1, 1) := by decide +kernel
theorem dX1_copy_50 : decode cX1_copy 50 = .ok (.getfield 15, 3) := by decide +kernel
theorem dX1_copy_53 : decode cX1_copy 53 = .ok (.iload_n 2, 1) := by decide +kernel
theorem dX1_copy_54 : decode cX1_copy 54 = .ok (.iaload, 1) := by decide +kernel
theorem dX1_copy_55 : decode cX1_copy 55 = .ok (.iastore, 1) := by decide +kernel
theorem dX1_copy_56 : decode cX1_copy 56 = .ok (.iinc 2 1, 3) := by decide +kernel
theorem dX1_copy_59 : decode cX1_copy 59 = .ok (.goto (-33), 3) := by decide +kernel
theorem dX1_copy_62 : decode cX1_copy 62 = .ok (.return_, 1) := by decide +kernel
theorem dX1_passGust_0 : decode cX1_passGust 0 = .ok (.aload_n 0, 1) := by decide +kernel
theorem dX1_passGust_1 : decode cX1_passGust 1 = .ok (.invokevirtual 32, 3) := by decide +kernel
theorem dX1_passGust_4 : decode cX1_passGust 4 = .ok (.iload_n 2, 1) := by decide +kernel
theorem dX1_passGust_5 : decode cX1_passGust 5 = .ok (.aload_n 0, 1) := by decide +kernel
theorem dX1_passGust_6 : decode cX1_passGust 6 = .ok (.getfield 29, 3) := by decide +kernel
theorem dX1_passGust_9 : decode cX1_passGust 9 = .ok (.if_icmp .lt 16, 3) := by decide +kernel
theorem dX1_passGust_12 : decode cX1_passGust 12 = .ok (.aload_n 0, 1) := by decide +kernel
theorem dX1_passGust_13 : decode cX1_passGust 13 = .ok (.iload_n 1, 1) := by decide +kernel
theorem dX1_passGust_14 : decode cX1_passGust 14 = .ok (.putfield 26, 3) := by decide +kernel
theorem dX1_passGust_17 : decode cX1_passGust 17 = .ok (.aload_n 0, 1) := by decide +kernel
theorem dX1_passGust_18 : decode cX1_passGust 18 = .ok (.iload_n 2, 1) := by decide +kernel
theorem dX1_passGust_19 : decode cX1_passGust 19 = .ok (.putfield 29, 3) := by decide +kernel
theorem dX1_passGust_22 : decode cX1_passGust 22 = .ok (.goto 7, 3) := by decide +kernel
theorem dX1_passGust_25 : decode cX1_passGust 25 = .ok (.aload_n 0, 1) := by decide +kernel
theorem dX1_passGust_26 : decode cX1_passGust 26 = .ok (.invokevirtual 35, 3) := by decide +kernel
theorem dX1_passGust_29 : decode cX1_passGust 29 = .ok (.aload_n 0, 1) := by decide +kernel
theorem dX1_passGust_30 : decode cX1_passGust 30 = .ok (.invokevirtual 38, 3) := by decide +kernel
theorem dX1_passGust_33 : decode cX1_passGust 33 = .ok (.ireturn, 1) := by decide +kernel
theorem dX1_passCalm_0 : decode cX1_passCalm 0 = .ok (.aload_n 0, 1) := by decide +kernel
theorem dX1_passCalm_1 : decode cX1_passCalm 1 = .ok (.invokevirtual 32, 3) := by decide +kernel
theorem dX1_passCalm_4 : decode cX1_passCalm 4 = .ok (.aload_n 0, 1) := by decide +kernel
theorem dX1_passCalm_5 : decode cX1_passCalm 5 = .ok (.invokevirtual 35, 3) := by decide +kernel
theorem dX1_passCalm_8 : decode cX1_passCalm 8 = .ok (.aload_n 0, 1) := by decide +kernel
theorem dX1_passCalm_9 : decode cX1_passCalm 9 = .ok (.invokevirtual 38, 3) := by decide +kernel
theorem dX1_passCalm_12 : decode cX1_passCalm 12 = .ok (.ireturn, 1) := by decide +kernel
theorem dX1_fade_0 : decode cX1_fade 0 = .ok (.aload_n 0, 1) := by decide +kernel
theorem dX1_fade_1 : decode cX1_fade 1 = .ok (.dup, 1) := by decide +kernel
theorem dX1_fade_2 : decode cX1_fade 2 = .ok (.getfield 22, 3) := by decide +kernel
theorem dX1_fade_5 : decode cX1_fade 5 = .ok (.iconst 1, 1) := by decide +kernel
theorem dX1_fade_6 : decode cX1_fade 6 = .ok (.iadd, 1) := by decide +kernel
theorem dX1_fade_7 : decode cX1_fade 7 = .ok (.putfield 22, 3) := by decide +kernel
theorem dX1_fade_10 : decode cX1_fade 10 = .ok (.iconst 0, 1) := by decide +kernel
theorem dX1_fade_11 : decode cX1_fade 11 = .ok (.istore_n 1, 1) := by decide +kernel
theorem dX1_fade_12 : decode cX1_fade 12 = .ok (.iload_n 1, 1) := by decide +kernel
theorem dX1_fade_13 : decode cX1_fade 13 = .ok (.aload_n 0, 1) := by decide +kernel
theorem dX1_fade_14 : decode cX1_fade 14 = .ok (.getfield 18, 3) := by decide +kernel
theorem dX1_fade_17 : decode cX1_fade 17 = .ok (.getfield 42, 3) := by decide +kernel
theorem dX1_fade_20 : decode cX1_fade 20 = .ok (.if_icmp .ge 27, 3) := by decide +kernel
theorem dX1_fade_23 : decode cX1_fade 23 = .ok (.aload_n 0, 1) := by decide +kernel
theorem dX1_fade_24 : decode cX1_fade 24 = .ok (.getfield 15, 3) := by decide +kernel
theorem dX1_fade_27 : decode cX1_fade 27 = .ok (.iload_n 1, 1) := by decide +kernel
theorem dX1_fade_28 : decode cX1_fade 28 = .ok (.aload_n 0, 1) := by decide +kernel
theorem dX1_fade_29 : decode cX1_fade 29 = .ok (.getfield 15, 3) := by decide +kernel
theorem dX1_fade_32 : decode cX1_fade 32 = .ok (.iload_n 1, 1) := by decide +kernel
theorem dX1_fade_33 : decode cX1_fade 33 = .ok (.iaload, 1) := by decide +kernel
theorem dX1_fade_34 : decode cX1_fade 34 = .ok (.iconst 1, 1) := by decide +kernel
theorem dX1_fade_35 : decode cX1_fade 35 = .ok (.isub, 1) := by decide +kernel
theorem dX1_fade_36 : decode cX1_fade 36 = .ok (.iconst 0, 1) := by decide +kernel
theorem dX1_fade_37 : decode cX1_fade 37 = .ok (.invokestatic 47, 3) := by decide +kernel
theorem dX1_fade_40 : decode cX1_fade 40 = .ok (.iastore, 1) := by decide +kernel
theorem dX1_fade_41 : decode cX1_fade 41 = .ok (.iinc 1 1, 3) := by decide +kernel
theorem dX1_fade_44 : decode cX1_fade 44 = .ok (.goto (-32), 3) := by decide +kernel
theorem dX1_fade_47 : decode cX1_fade 47 = .ok (.return_, 1) := by decide +kernel
theorem dX1_swingOver_0 : decode cX1_swingOver 0 = .ok (.aload_n 0, 1) := by decide +kernel
theorem dX1_swingOver_1 : decode cX1_swingOver 1 = .ok (.getfield 26, 3) := by decide +kernel
theorem dX1_swingOver_4 : decode cX1_swingOver 4 = .ok (.aload_n 0, 1) := by decide +kernel
theorem dX1_swingOver_5 : decode cX1_swingOver 5 = .ok (.getfield 18, 3) := by decide +kernel
theorem dX1_swingOver_8 : decode cX1_swingOver 8 = .ok (.getfield 42, 3) := by decide +kernel
theorem dX1_swingOver_11 : decode cX1_swingOver 11 = .ok (.iconst 2, 1) := by decide +kernel
theorem dX1_swingOver_12 : decode cX1_swingOver 12 = .ok (.idiv, 1) := by decide +kernel
theorem dX1_swingOver_13 : decode cX1_swingOver 13 = .ok (.iadd, 1) := by decide +kernel
theorem dX1_swingOver_14 : decode cX1_swingOver 14 = .ok (.istore_n 1, 1) := by decide +kernel
theorem dX1_swingOver_15 : decode cX1_swingOver 15 = .ok (.aload_n 0, 1) := by decide +kernel
theorem dX1_swingOver_16 : decode cX1_swingOver 16 = .ok (.iload_n 1, 1) := by decide +kernel
theorem dX1_swingOver_17 : decode cX1_swingOver 17 = .ok (.aload_n 0, 1) := by decide +kernel
theorem dX1_swingOver_18 : decode cX1_swingOver 18 = .ok (.getfield 18, 3) := by decide +kernel
theorem dX1_swingOver_21 : decode cX1_swingOver 21 = .ok (.getfield 42, 3) := by decide +kernel
theorem dX1_swingOver_24 : decode cX1_swingOver 24 = .ok (.if_icmp .ge 7, 3) := by decide +kernel
theorem dX1_swingOver_27 : decode cX1_swingOver 27 = .ok (.iload_n 1, 1) := by decide +kernel
theorem dX1_swingOver_28 : decode cX1_swingOver 28 = .ok (.goto 12, 3) := by decide +kernel
theorem dX1_swingOver_31 : decode cX1_swingOver 31 = .ok (.iload_n 1, 1) := by decide +kernel
theorem dX1_swingOver_32 : decode cX1_swingOver 32 = .ok (.aload_n 0, 1) := by decide +kernel
theorem dX1_swingOver_33 : decode cX1_swingOver 33 = .ok (.getfield 18, 3) := by decide +kernel
theorem dX1_swingOver_36 : decode cX1_swingOver 36 = .ok (.getfield 42, 3) := by decide +kernel
theorem dX1_swingOver_39 : decode cX1_swingOver 39 = .ok (.isub, 1) := by decide +kernel
theorem dX1_swingOver_40 : decode cX1_swingOver 40 = .ok (.putfield 26, 3) := by decide +kernel
theorem dX1_swingOver_43 : decode cX1_swingOver 43 = .ok (.aload_n 0, 1) := by decide +kernel
theorem dX1_swingOver_44 : decode cX1_swingOver 44 = .ok (.aload_n 0, 1) := by decide +kernel
theorem dX1_swingOver_45 : decode cX1_swingOver 45 = .ok (.getfield 29, 3) := by decide +kernel
theorem dX1_swingOver_48 : decode cX1_swingOver 48 = .ok (.aload_n 0, 1) := by decide +kernel
theorem dX1_swingOver_49 : decode cX1_swingOver 49 = .ok (.getfield 18, 3) := by decide +kernel
theorem dX1_swingOver_52 : decode cX1_swingOver 52 = .ok (.getfield 53, 3) := by decide +kernel
theorem dX1_swingOver_55 : decode cX1_swingOver 55 = .ok (.isub, 1) := by decide +kernel
theorem dX1_swingOver_56 : decode cX1_swingOver 56 = .ok (.iconst 0, 1) := by decide +kernel
theorem dX1_swingOver_57 : decode cX1_swingOver 57 = .ok (.invokestatic 47, 3) := by decide +kernel
theorem dX1_swingOver_60 : decode cX1_swingOver 60 = .ok (.putfield 29, 3) := by decide +kernel
theorem dX1_swingOver_63 : decode cX1_swingOver 63 = .ok (.return_, 1) := by decide +kernel
theorem dX1_strike_0 : decode cX1_strike 0 = .ok (.aload_n 0, 1) := by decide +kernel
theorem dX1_strike_1 : decode cX1_strike 1 = .ok (.aload_n 0, 1) := by decide +kernel
theorem dX1_strike_2 : decode cX1_strike 2 = .ok (.getfield 26, 3) := by decide +kernel
theorem dX1_strike_5 : decode cX1_strike 5 = .ok (.invokevirtual 56, 3) := by decide +kernel
theorem dX1_strike_8 : decode cX1_strike 8 = .ok (.istore_n 1, 1) := by decide +kernel
theorem dX1_strike_9 : decode cX1_strike 9 = .ok (.aload_n 0, 1) := by decide +kernel
theorem dX1_strike_10 : decode cX1_strike 10 = .ok (.getfield 18, 3) := by decide +kernel
theorem dX1_strike_13 : decode cX1_strike 13 = .ok (.iload_n 1, 1) := by decide +kernel
theorem dX1_strike_14 : decode cX1_strike 14 = .ok (.invokevirtual 60, 3) := by decide +kernel
theorem dX1_strike_17 : decode cX1_strike 17 = .ok (.ifCond .eq 19, 3) := by decide +kernel
theorem dX1_strike_20 : decode cX1_strike 20 = .ok (.aload_n 0, 1) := by decide +kernel
theorem dX1_strike_21 : decode cX1_strike 21 = .ok (.getfield 29, 3) := by decide +kernel
theorem dX1_strike_24 : decode cX1_strike 24 = .ok (.aload_n 0, 1) := by decide +kernel
theorem dX1_strike_25 : decode cX1_strike 25 = .ok (.getfield 18, 3) := by decide +kernel
theorem dX1_strike_28 : decode cX1_strike 28 = .ok (.getfield 64, 3) := by decide +kernel
theorem dX1_strike_31 : decode cX1_strike 31 = .ok (.iload_n 1, 1) := by decide +kernel
theorem dX1_strike_32 : decode cX1_strike 32 = .ok (.iaload, 1) := by decide +kernel
theorem dX1_strike_33 : decode cX1_strike 33 = .ok (.if_icmp .ge 6, 3) := by decide +kernel
theorem dX1_strike_36 : decode cX1_strike 36 = .ok (.bipush (-9), 2) := by decide +kernel
theorem dX1_strike_38 : decode cX1_strike 38 = .ok (.ireturn, 1) := by decide +kernel
theorem dX1_strike_39 : decode cX1_strike 39 = .ok (.aload_n 0, 1) := by decide +kernel
theorem dX1_strike_40 : decode cX1_strike 40 = .ok (.getfield 15, 3) := by decide +kernel
theorem dX1_strike_43 : decode cX1_strike 43 = .ok (.iload_n 1, 1) := by decide +kernel
theorem dX1_strike_44 : decode cX1_strike 44 = .ok (.aload_n 0, 1) := by decide +kernel
theorem dX1_strike_45 : decode cX1_strike 45 = .ok (.getfield 18, 3) := by decide +kernel
theorem dX1_strike_48 : decode cX1_strike 48 = .ok (.getfield 67, 3) := by decide +kernel
theorem dX1_strike_51 : decode cX1_strike 51 = .ok (.iload_n 1, 1) := by decide +kernel
theorem dX1_strike_52 : decode cX1_strike 52 = .ok (.iaload, 1) := by decide +kernel
theorem dX1_strike_53 : decode cX1_strike 53 = .ok (.iastore, 1) := by decide +kernel
theorem dX1_strike_54 : decode cX1_strike 54 = .ok (.aload_n 0, 1) := by decide +kernel
theorem dX1_strike_55 : decode cX1_strike 55 = .ok (.dup, 1) := by decide +kernel
theorem dX1_strike_56 : decode cX1_strike 56 = .ok (.getfield 29, 3) := by decide +kernel
theorem dX1_strike_59 : decode cX1_strike 59 = .ok (.iconst 1, 1) := by decide +kernel
theorem dX1_strike_60 : decode cX1_strike 60 = .ok (.isub, 1) := by decide +kernel
theorem dX1_strike_61 : decode cX1_strike 61 = .ok (.putfield 29, 3) := by decide +kernel
theorem dX1_strike_64 : decode cX1_strike 64 = .ok (.iload_n 1, 1) := by decide +kernel
theorem dX1_strike_65 : decode cX1_strike 65 = .ok (.ireturn, 1) := by decide +kernel
theorem dX1_rodAt_0 : decode cX1_rodAt 0 = .ok (.iconst 0, 1) := by decide +kernel
theorem dX1_rodAt_1 : decode cX1_rodAt 1 = .ok (.istore_n 2, 1) := by decide +kernel
theorem dX1_rodAt_2 : decode cX1_rodAt 2 = .ok (.iload_n 2, 1) := by decide +kernel
theorem dX1_rodAt_3 : decode cX1_rodAt 3 = .ok (.aload_n 0, 1) := by decide +kernel
theorem dX1_rodAt_4 : decode cX1_rodAt 4 = .ok (.getfield 18, 3) := by decide +kernel
theorem dX1_rodAt_7 : decode cX1_rodAt 7 = .ok (.getfield 42, 3) := by decide +kernel
theorem dX1_rodAt_10 : decode cX1_rodAt 10 = .ok (.if_icmp .ge 21, 3) := by decide +kernel
theorem dX1_rodAt_13 : decode cX1_rodAt 13 = .ok (.aload_n 0, 1) := by decide +kernel
theorem dX1_rodAt_14 : decode cX1_rodAt 14 = .ok (.getfield 9, 3) := by decide +kernel
theorem dX1_rodAt_17 : decode cX1_rodAt 17 = .ok (.iload_n 2, 1) := by decide +kernel
theorem dX1_rodAt_18 : decode cX1_rodAt 18 = .ok (.iaload, 1) := by decide +kernel
theorem dX1_rodAt_19 : decode cX1_rodAt 19 = .ok (.iload_n 1, 1) := by decide +kernel
theorem dX1_rodAt_20 : decode cX1_rodAt 20 = .ok (.if_icmp .ne 5, 3) := by decide +kernel
theorem dX1_rodAt_23 : decode cX1_rodAt 23 = .ok (.iload_n 2, 1) := by decide +kernel
theorem dX1_rodAt_24 : decode cX1_rodAt 24 = .ok (.ireturn, 1) := by decide +kernel
theorem dX1_rodAt_25 : decode cX1_rodAt 25 = .ok (.iinc 2 1, 3) := by decide +kernel
theorem dX1_rodAt_28 : decode cX1_rodAt 28 = .ok (.goto (-26), 3) := by decide +kernel
theorem dX1_rodAt_31 : decode cX1_rodAt 31 = .ok (.bipush (-9), 2) := by decide +kernel
theorem dX1_rodAt_33 : decode cX1_rodAt 33 = .ok (.ireturn, 1) := by decide +kernel
theorem dX1_exchange_0 : decode cX1_exchange 0 = .ok (.aload_n 0, 1) := by decide +kernel
theorem dX1_exchange_1 : decode cX1_exchange 1 = .ok (.getfield 9, 3) := by decide +kernel
theorem dX1_exchange_4 : decode cX1_exchange 4 = .ok (.iload_n 1, 1) := by decide +kernel
theorem dX1_exchange_5 : decode cX1_exchange 5 = .ok (.iaload, 1) := by decide +kernel
theorem dX1_exchange_6 : decode cX1_exchange 6 = .ok (.istore_n 3, 1) := by decide +kernel
theorem dX1_exchange_7 : decode cX1_exchange 7 = .ok (.aload_n 0, 1) := by decide +kernel
theorem dX1_exchange_8 : decode cX1_exchange 8 = .ok (.getfield 9, 3) := by decide +kernel
theorem dX1_exchange_11 : decode cX1_exchange 11 = .ok (.iload_n 1, 1) := by decide +kernel
theorem dX1_exchange_12 : decode cX1_exchange 12 = .ok (.aload_n 0, 1) := by decide +kernel
theorem dX1_exchange_13 : decode cX1_exchange 13 = .ok (.getfield 9, 3) := by decide +kernel
theorem dX1_exchange_16 : decode cX1_exchange 16 = .ok (.iload_n 2, 1) := by decide +kernel
theorem dX1_exchange_17 : decode cX1_exchange 17 = .ok (.iaload, 1) := by decide +kernel
theorem dX1_exchange_18 : decode cX1_exchange 18 = .ok (.iastore, 1) := by decide +kernel
theorem dX1_exchange_19 : decode cX1_exchange 19 = .ok (.aload_n 0, 1) := by decide +kernel
theorem dX1_exchange_20 : decode cX1_exchange 20 = .ok (.getfield 9, 3) := by decide +kernel
theorem dX1_exchange_23 : decode cX1_exchange 23 = .ok (.iload_n 2, 1) := by decide +kernel
theorem dX1_exchange_24 : decode cX1_exchange 24 = .ok (.iload_n 3, 1) := by decide +kernel
theorem dX1_exchange_25 : decode cX1_exchange 25 = .ok (.iastore, 1) := by decide +kernel
theorem dX1_exchange_26 : decode cX1_exchange 26 = .ok (.return_, 1) := by decide +kernel
theorem dX1_ringing_0 : decode cX1_ringing 0 = .ok (.iconst 0, 1) := by decide +kernel
theorem dX1_ringing_1 : decode cX1_ringing 1 = .ok (.istore_n 1, 1) := by decide +kernel
theorem dX1_ringing_2 : decode cX1_ringing 2 = .ok (.iconst 0, 1) := by decide +kernel
theorem dX1_ringing_3 : decode cX1_ringing 3 = .ok (.istore_n 2, 1) := by decide +kernel
theorem dX1_ringing_4 : decode cX1_ringing 4 = .ok (.iload_n 2, 1) := by decide +kernel
theorem dX1_ringing_5 : decode cX1_ringing 5 = .ok (.aload_n 0, 1) := by decide +kernel
theorem dX1_ringing_6 : decode cX1_ringing 6 = .ok (.getfield 18, 3) := by decide +kernel
theorem dX1_ringing_9 : decode cX1_ringing 9 = .ok (.getfield 42, 3) := by decide +kernel
theorem dX1_ringing_12 : decode cX1_ringing 12 = .ok (.if_icmp .ge 24, 3) := by decide +kernel
theorem dX1_ringing_15 : decode cX1_ringing 15 = .ok (.aload_n 0, 1) := by decide +kernel
theorem dX1_ringing_16 : decode cX1_ringing 16 = .ok (.getfield 15, 3) := by decide +kernel
theorem dX1_ringing_19 : decode cX1_ringing 19 = .ok (.iload_n 2, 1) := by decide +kernel
theorem dX1_ringing_20 : decode cX1_ringing 20 = .ok (.iaload, 1) := by decide +kernel
theorem dX1_ringing_21 : decode cX1_ringing 21 = .ok (.ifCond .le 9, 3) := by decide +kernel
theorem dX1_ringing_24 : decode cX1_ringing 24 = .ok (.iload_n 1, 1) := by decide +kernel
theorem dX1_ringing_25 : decode cX1_ringing 25 = .ok (.iconst 1, 1) := by decide +kernel
theorem dX1_ringing_26 : decode cX1_ringing 26 = .ok (.iload_n 2, 1) := by decide +kernel
theorem dX1_ringing_27 : decode cX1_ringing 27 = .ok (.ishl, 1) := by decide +kernel
theorem dX1_ringing_28 : decode cX1_ringing 28 = .ok (.ior, 1) := by decide +kernel
theorem dX1_ringing_29 : decode cX1_ringing 29 = .ok (.istore_n 1, 1) := by decide +kernel
theorem dX1_ringing_30 : decode cX1_ringing 30 = .ok (.iinc 2 1, 3) := by decide +kernel
theorem dX1_ringing_33 : decode cX1_ringing 33 = .ok (.goto (-29), 3) := by decide +kernel
theorem dX1_ringing_36 : decode cX1_ringing 36 = .ok (.iload_n 1, 1) := by decide +kernel
theorem dX1_ringing_37 : decode cX1_ringing 37 = .ok (.ireturn, 1) := by decide +kernel
theorem dX1_harsh_0 : decode cX1_harsh 0 = .ok (.iconst 0, 1) := by decide +kernel
theorem dX1_harsh_1 : decode cX1_harsh 1 = .ok (.istore_n 1, 1) := by decide +kernel
theorem dX1_harsh_2 : decode cX1_harsh 2 = .ok (.iconst 0, 1) := by decide +kernel
theorem dX1_harsh_3 : decode cX1_harsh 3 = .ok (.istore_n 2, 1) := by decide +kernel
theorem dX1_harsh_4 : decode cX1_harsh 4 = .ok (.iload_n 2, 1) := by decide +kernel
theorem dX1_harsh_5 : decode cX1_harsh 5 = .ok (.aload_n 0, 1) := by decide +kernel
theorem dX1_harsh_6 : decode cX1_harsh 6 = .ok (.getfield 18, 3) := by decide +kernel
theorem dX1_harsh_9 : decode cX1_harsh 9 = .ok (.getfield 42, 3) := by decide +kernel
theorem dX1_harsh_12 : decode cX1_harsh 12 = .ok (.if_icmp .ge 63, 3) := by decide +kernel
theorem dX1_harsh_15 : decode cX1_harsh 15 = .ok (.iload_n 2, 1) := by decide +kernel
theorem dX1_harsh_16 : decode cX1_harsh 16 = .ok (.iconst 1, 1) := by decide +kernel
theorem dX1_harsh_17 : decode cX1_harsh 17 = .ok (.iadd, 1) := by decide +kernel
theorem dX1_harsh_18 : decode cX1_harsh 18 = .ok (.istore_n 3, 1) := by decide +kernel
theorem dX1_harsh_19 : decode cX1_harsh 19 = .ok (.iload_n 3, 1) := by decide +kernel
theorem dX1_harsh_20 : decode cX1_harsh 20 = .ok (.aload_n 0, 1) := by decide +kernel
theorem dX1_harsh_21 : decode cX1_harsh 21 = .ok (.getfield 18, 3) := by decide +kernel
theorem dX1_harsh_24 : decode cX1_harsh 24 = .ok (.getfield 42, 3) := by decide +kernel
theorem dX1_harsh_27 : decode cX1_harsh 27 = .ok (.if_icmp .ge 42, 3) := by decide +kernel
theorem dX1_harsh_30 : decode cX1_harsh 30 = .ok (.aload_n 0, 1) := by decide +kernel
theorem dX1_harsh_31 : decode cX1_harsh 31 = .ok (.getfield 15, 3) := by decide +kernel
theorem dX1_harsh_34 : decode cX1_harsh 34 = .ok (.iload_n 2, 1) := by decide +kernel
theorem dX1_harsh_35 : decode cX1_harsh 35 = .ok (.iaload, 1) := by decide +kernel
theorem dX1_harsh_36 : decode cX1_harsh 36 = .ok (.ifCond .le 33, 3) := by decide +kernel
theorem dX1_harsh_39 : decode cX1_harsh 39 = .ok (.aload_n 0, 1) := by decide +kernel
theorem dX1_harsh_40 : decode cX1_harsh 40 = .ok (.getfield 15, 3) := by decide +kernel
theorem dX1_harsh_43 : decode cX1_harsh 43 = .ok (.iload_n 3, 1) := by decide +kernel
theorem dX1_harsh_44 : decode cX1_harsh 44 = .ok (.iaload, 1) := by decide +kernel
theorem dX1_harsh_45 : decode cX1_harsh 45 = .ok (.ifCond .le 18, 3) := by decide +kernel
theorem dX1_harsh_48 : decode cX1_harsh 48 = .ok (.aload_n 0, 1) := by decide +kernel
theorem dX1_harsh_49 : decode cX1_harsh 49 = .ok (.getfield 18, 3) := by decide +kernel
theorem dX1_harsh_52 : decode cX1_harsh 52 = .ok (.iload_n 2, 1) := by decide +kernel
theorem dX1_harsh_53 : decode cX1_harsh 53 = .ok (.iload_n 3, 1) := by decide +kernel
theorem dX1_harsh_54 : decode cX1_harsh 54 = .ok (.invokevirtual 70, 3) := by decide +kernel
theorem dX1_harsh_57 : decode cX1_harsh 57 = .ok (.ifCond .eq 6, 3) := by decide +kernel
theorem dX1_harsh_60 : decode cX1_harsh 60 = .ok (.iinc 1 1, 3) := by decide +kernel
theorem dX1_harsh_63 : decode cX1_harsh 63 = .ok (.iinc 3 1, 3) := by decide +kernel
theorem dX1_harsh_66 : decode cX1_harsh 66 = .ok (.goto (-47), 3) := by decide +kernel
theorem dX1_harsh_69 : decode cX1_harsh 69 = .ok (.iinc 2 1, 3) := by decide +kernel
theorem dX1_harsh_72 : decode cX1_harsh 72 = .ok (.goto (-68), 3) := by decide +kernel
theorem dX1_harsh_75 : decode cX1_harsh 75 = .ok (.iload_n 1, 1) := by decide +kernel
theorem dX1_harsh_76 : decode cX1_harsh 76 = .ok (.ireturn, 1) := by decide +kernel
theorem dX1_isStill_0 : decode cX1_isStill 0 = .ok (.aload_n 0, 1) := by decide +kernel
theorem dX1_isStill_1 : decode cX1_isStill 1 = .ok (.getfield 29, 3) := by decide +kernel
theorem dX1_isStill_4 : decode cX1_isStill 4 = .ok (.ifCond .ne 14, 3) := by decide +kernel
theorem dX1_isStill_7 : decode cX1_isStill 7 = .ok (.aload_n 0, 1) := by decide +kernel
theorem dX1_isStill_8 : decode cX1_isStill 8 = .ok (.invokevirtual 74, 3) := by decide +kernel
theorem dX1_isStill_11 : decode cX1_isStill 11 = .ok (.ifCond .ne 7, 3) := by decide +kernel
theorem dX1_isStill_14 : decode cX1_isStill 14 = .ok (.iconst 1, 1) := by decide +kernel
theorem dX1_isStill_15 : decode cX1_isStill 15 = .ok (.goto 4, 3) := by decide +kernel
theorem dX1_isStill_18 : decode cX1_isStill 18 = .ok (.iconst 0, 1) := by decide +kernel
theorem dX1_isStill_19 : decode cX1_isStill 19 = .ok (.ireturn, 1) := by decide +kernel
