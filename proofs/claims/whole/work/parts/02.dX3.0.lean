theorem dX3_init_0 : decode cX3_init 0 = .ok (.aload_n 0, 1) := by decide +kernel
theorem dX3_init_1 : decode cX3_init 1 = .ok (.invokespecial 3, 3) := by decide +kernel
theorem dX3_init_4 : decode cX3_init 4 = .ok (.aload_n 0, 1) := by decide +kernel
theorem dX3_init_5 : decode cX3_init 5 = .ok (.bipush 120, 2) := by decide +kernel
theorem dX3_init_7 : decode cX3_init 7 = .ok (.newarray .int, 2) := by decide +kernel
theorem dX3_init_9 : decode cX3_init 9 = .ok (.putfield 9, 3) := by decide +kernel
theorem dX3_init_12 : decode cX3_init 12 = .ok (.aload_n 0, 1) := by decide +kernel
theorem dX3_init_13 : decode cX3_init 13 = .ok (.new 15, 3) := by decide +kernel
theorem dX3_init_16 : decode cX3_init 16 = .ok (.dup, 1) := by decide +kernel
theorem dX3_init_17 : decode cX3_init 17 = .ok (.invokespecial 17, 3) := by decide +kernel
theorem dX3_init_20 : decode cX3_init 20 = .ok (.putfield 18, 3) := by decide +kernel
theorem dX3_init_23 : decode cX3_init 23 = .ok (.return_, 1) := by decide +kernel
theorem dX3_add_0 : decode cX3_add 0 = .ok (.aload_n 0, 1) := by decide +kernel
theorem dX3_add_1 : decode cX3_add 1 = .ok (.getfield 22, 3) := by decide +kernel
theorem dX3_add_4 : decode cX3_add 4 = .ok (.bipush 120, 2) := by decide +kernel
theorem dX3_add_6 : decode cX3_add 6 = .ok (.if_icmp .lt 5, 3) := by decide +kernel
theorem dX3_add_9 : decode cX3_add 9 = .ok (.iconst 0, 1) := by decide +kernel
theorem dX3_add_10 : decode cX3_add 10 = .ok (.ireturn, 1) := by decide +kernel
theorem dX3_add_11 : decode cX3_add 11 = .ok (.aload_n 0, 1) := by decide +kernel
theorem dX3_add_12 : decode cX3_add 12 = .ok (.getfield 9, 3) := by decide +kernel
theorem dX3_add_15 : decode cX3_add 15 = .ok (.aload_n 0, 1) := by decide +kernel
theorem dX3_add_16 : decode cX3_add 16 = .ok (.getfield 22, 3) := by decide +kernel
theorem dX3_add_19 : decode cX3_add 19 = .ok (.iload_n 1, 1) := by decide +kernel
theorem dX3_add_20 : decode cX3_add 20 = .ok (.iastore, 1) := by decide +kernel
theorem dX3_add_21 : decode cX3_add 21 = .ok (.aload_n 0, 1) := by decide +kernel
theorem dX3_add_22 : decode cX3_add 22 = .ok (.dup, 1) := by decide +kernel
theorem dX3_add_23 : decode cX3_add 23 = .ok (.getfield 22, 3) := by decide +kernel
theorem dX3_add_26 : decode cX3_add 26 = .ok (.iconst 1, 1) := by decide +kernel
theorem dX3_add_27 : decode cX3_add 27 = .ok (.iadd, 1) := by decide +kernel
theorem dX3_add_28 : decode cX3_add 28 = .ok (.putfield 22, 3) := by decide +kernel
theorem dX3_add_31 : decode cX3_add 31 = .ok (.iconst 1, 1) := by decide +kernel
theorem dX3_add_32 : decode cX3_add 32 = .ok (.ireturn, 1) := by decide +kernel
theorem dX3_read_0 : decode cX3_read 0 = .ok (.aload_n 0, 1) := by decide +kernel
theorem dX3_read_1 : decode cX3_read 1 = .ok (.getfield 18, 3) := by decide +kernel
theorem dX3_read_4 : decode cX3_read 4 = .ok (.invokevirtual 26, 3) := by decide +kernel
theorem dX3_read_7 : decode cX3_read 7 = .ok (.aload_n 0, 1) := by decide +kernel
theorem dX3_read_8 : decode cX3_read 8 = .ok (.iconst 0, 1) := by decide +kernel
theorem dX3_read_9 : decode cX3_read 9 = .ok (.putfield 29, 3) := by decide +kernel
theorem dX3_read_12 : decode cX3_read 12 = .ok (.aload_n 0, 1) := by decide +kernel
theorem dX3_read_13 : decode cX3_read 13 = .ok (.iconst 0, 1) := by decide +kernel
theorem dX3_read_14 : decode cX3_read 14 = .ok (.putfield 32, 3) := by decide +kernel
theorem dX3_read_17 : decode cX3_read 17 = .ok (.iconst 0, 1) := by decide +kernel
theorem dX3_read_18 : decode cX3_read 18 = .ok (.istore_n 1, 1) := by decide +kernel
theorem dX3_read_19 : decode cX3_read 19 = .ok (.iconst 0, 1) := by decide +kernel
theorem dX3_read_20 : decode cX3_read 20 = .ok (.istore_n 2, 1) := by decide +kernel
theorem dX3_read_21 : decode cX3_read 21 = .ok (.iload_n 2, 1) := by decide +kernel
theorem dX3_read_22 : decode cX3_read 22 = .ok (.aload_n 0, 1) := by decide +kernel
theorem dX3_read_23 : decode cX3_read 23 = .ok (.getfield 22, 3) := by decide +kernel
theorem dX3_read_26 : decode cX3_read 26 = .ok (.if_icmp .ge 32, 3) := by decide +kernel
theorem dX3_read_29 : decode cX3_read 29 = .ok (.aload_n 0, 1) := by decide +kernel
theorem dX3_read_30 : decode cX3_read 30 = .ok (.iload_n 2, 1) := by decide +kernel
theorem dX3_read_31 : decode cX3_read 31 = .ok (.invokevirtual 36, 3) := by decide +kernel
theorem dX3_read_34 : decode cX3_read 34 = .ok (.ifCond .eq 10, 3) := by decide +kernel
theorem dX3_read_37 : decode cX3_read 37 = .ok (.aload_n 0, 1) := by decide +kernel
theorem dX3_read_38 : decode cX3_read 38 = .ok (.iload_n 1, 1) := by decide +kernel
theorem dX3_read_39 : decode cX3_read 39 = .ok (.iload_n 2, 1) := by decide +kernel
theorem dX3_read_40 : decode cX3_read 40 = .ok (.invokevirtual 40, 3) := by decide +kernel
theorem dX3_read_43 : decode cX3_read 43 = .ok (.istore_n 1, 1) := by decide +kernel
theorem dX3_read_44 : decode cX3_read 44 = .ok (.iload_n 1, 1) := by decide +kernel
theorem dX3_read_45 : decode cX3_read 45 = .ok (.bipush 6, 2) := by decide +kernel
theorem dX3_read_47 : decode cX3_read 47 = .ok (.if_icmp .ne 5, 3) := by decide +kernel
theorem dX3_read_50 : decode cX3_read 50 = .ok (.iload_n 2, 1) := by decide +kernel
theorem dX3_read_51 : decode cX3_read 51 = .ok (.ireturn, 1) := by decide +kernel
theorem dX3_read_52 : decode cX3_read 52 = .ok (.iinc 2 1, 3) := by decide +kernel
theorem dX3_read_55 : decode cX3_read 55 = .ok (.goto (-34), 3) := by decide +kernel
theorem dX3_read_58 : decode cX3_read 58 = .ok (.iload_n 1, 1) := by decide +kernel
theorem dX3_read_59 : decode cX3_read 59 = .ok (.ifCond .ne 18, 3) := by decide +kernel
theorem dX3_read_62 : decode cX3_read 62 = .ok (.aload_n 0, 1) := by decide +kernel
theorem dX3_read_63 : decode cX3_read 63 = .ok (.getfield 18, 3) := by decide +kernel
theorem dX3_read_66 : decode cX3_read 66 = .ok (.getfield 44, 3) := by decide +kernel
theorem dX3_read_69 : decode cX3_read 69 = .ok (.iconst 3, 1) := by decide +kernel
theorem dX3_read_70 : decode cX3_read 70 = .ok (.if_icmp .lt 7, 3) := by decide +kernel
theorem dX3_read_73 : decode cX3_read 73 = .ok (.iconst (-1), 1) := by decide +kernel
theorem dX3_read_74 : decode cX3_read 74 = .ok (.goto 7, 3) := by decide +kernel
theorem dX3_read_77 : decode cX3_read 77 = .ok (.aload_n 0, 1) := by decide +kernel
theorem dX3_read_78 : decode cX3_read 78 = .ok (.getfield 22, 3) := by decide +kernel
theorem dX3_read_81 : decode cX3_read 81 = .ok (.ireturn, 1) := by decide +kernel
theorem dX3_startsToken_0 : decode cX3_startsToken 0 = .ok (.aload_n 0, 1) := by decide +kernel
theorem dX3_startsToken_1 : decode cX3_startsToken 1 = .ok (.getfield 9, 3) := by decide +kernel
theorem dX3_startsToken_4 : decode cX3_startsToken 4 = .ok (.iload_n 1, 1) := by decide +kernel
theorem dX3_startsToken_5 : decode cX3_startsToken 5 = .ok (.iaload, 1) := by decide +kernel
theorem dX3_startsToken_6 : decode cX3_startsToken 6 = .ok (.bipush 32, 2) := by decide +kernel
theorem dX3_startsToken_8 : decode cX3_startsToken 8 = .ok (.if_icmp .eq 25, 3) := by decide +kernel
theorem dX3_startsToken_11 : decode cX3_startsToken 11 = .ok (.aload_n 0, 1) := by decide +kernel
theorem dX3_startsToken_12 : decode cX3_startsToken 12 = .ok (.iload_n 1, 1) := by decide +kernel
theorem dX3_startsToken_13 : decode cX3_startsToken 13 = .ok (.invokevirtual 47, 3) := by decide +kernel
theorem dX3_startsToken_16 : decode cX3_startsToken 16 = .ok (.ifCond .eq 13, 3) := by decide +kernel
theorem dX3_startsToken_19 : decode cX3_startsToken 19 = .ok (.aload_n 0, 1) := by decide +kernel
theorem dX3_startsToken_20 : decode cX3_startsToken 20 = .ok (.iload_n 1, 1) := by decide +kernel
theorem dX3_startsToken_21 : decode cX3_startsToken 21 = .ok (.iconst 1, 1) := by decide +kernel
theorem dX3_startsToken_22 : decode cX3_startsToken 22 = .ok (.isub, 1) := by decide +kernel
theorem dX3_startsToken_23 : decode cX3_startsToken 23 = .ok (.invokevirtual 47, 3) := by decide +kernel
theorem dX3_startsToken_26 : decode cX3_startsToken 26 = .ok (.ifCond .ne 7, 3) := by decide +kernel
theorem dX3_startsToken_29 : decode cX3_startsToken 29 = .ok (.iconst 1, 1) := by decide +kernel
theorem dX3_startsToken_30 : decode cX3_startsToken 30 = .ok (.goto 4, 3) := by decide +kernel
theorem dX3_startsToken_33 : decode cX3_startsToken 33 = .ok (.iconst 0, 1) := by decide +kernel
theorem dX3_startsToken_34 : decode cX3_startsToken 34 = .ok (.ireturn, 1) := by decide +kernel
theorem dX3_isDigit_0 : decode cX3_isDigit 0 = .ok (.iload_n 1, 1) := by decide +kernel
theorem dX3_isDigit_1 : decode cX3_isDigit 1 = .ok (.ifCond .lt 37, 3) := by decide +kernel
theorem dX3_isDigit_4 : decode cX3_isDigit 4 = .ok (.iload_n 1, 1) := by decide +kernel
theorem dX3_isDigit_5 : decode cX3_isDigit 5 = .ok (.aload_n 0, 1) := by decide +kernel
theorem dX3_isDigit_6 : decode cX3_isDigit 6 = .ok (.getfield 22, 3) := by decide +kernel
theorem dX3_isDigit_9 : decode cX3_isDigit 9 = .ok (.if_icmp .ge 29, 3) := by decide +kernel
theorem dX3_isDigit_12 : decode cX3_isDigit 12 = .ok (.aload_n 0, 1) := by decide +kernel
theorem dX3_isDigit_13 : decode cX3_isDigit 13 = .ok (.getfield 9, 3) := by decide +kernel
theorem dX3_isDigit_16 : decode cX3_isDigit 16 = .ok (.iload_n 1, 1) := by decide +kernel
theorem dX3_isDigit_17 : decode cX3_isDigit 17 = .ok (.iaload, 1) := by decide +kernel
theorem dX3_isDigit_18 : decode cX3_isDigit 18 = .ok (.bipush 48, 2) := by decide +kernel
theorem dX3_isDigit_20 : decode cX3_isDigit 20 = .ok (.if_icmp .lt 18, 3) := by decide +kernel
theorem dX3_isDigit_23 : decode cX3_isDigit 23 = .ok (.aload_n 0, 1) := by decide +kernel
theorem dX3_isDigit_24 : decode cX3_isDigit 24 = .ok (.getfield 9, 3) := by decide +kernel
theorem dX3_isDigit_27 : decode cX3_isDigit 27 = .ok (.iload_n 1, 1) := by decide +kernel
theorem dX3_isDigit_28 : decode cX3_isDigit 28 = .ok (.iaload, 1) := by decide +kernel
theorem dX3_isDigit_29 : decode cX3_isDigit 29 = .ok (.bipush 57, 2) := by decide +kernel
theorem dX3_isDigit_31 : decode cX3_isDigit 31 = .ok (.if_icmp .gt 7, 3) := by decide +kernel
theorem dX3_isDigit_34 : decode cX3_isDigit 34 = .ok (.iconst 1, 1) := by decide +kernel
theorem dX3_isDigit_35 : decode cX3_isDigit 35 = .ok (.goto 4, 3) := by decide +kernel
theorem dX3_isDigit_38 : decode cX3_isDigit 38 = .ok (.iconst 0, 1) := by decide +kernel
theorem dX3_isDigit_39 : decode cX3_isDigit 39 = .ok (.ireturn, 1) := by decide +kernel
theorem dX3_dueBehind_0 : decode cX3_dueBehind 0 = .ok (.aload_n 0, 1) := by decide +kernel
theorem dX3_dueBehind_1 : decode cX3_dueBehind 1 = .ok (.iload_n 2, 1) := by decide +kernel
theorem dX3_dueBehind_2 : decode cX3_dueBehind 2 = .ok (.invokevirtual 47, 3) := by decide +kernel
theorem dX3_dueBehind_5 : decode cX3_dueBehind 5 = .ok (.ifCond .eq 14, 3) := by decide +kernel
theorem dX3_dueBehind_8 : decode cX3_dueBehind 8 = .ok (.aload_n 0, 1) := by decide +kernel
theorem dX3_dueBehind_9 : decode cX3_dueBehind 9 = .ok (.iload_n 1, 1) := by decide +kernel
theorem dX3_dueBehind_10 : decode cX3_dueBehind 10 = .ok (.aload_n 0, 1) := by decide +kernel
theorem dX3_dueBehind_11 : decode cX3_dueBehind 11 = .ok (.iload_n 2, 1) := by decide +kernel
theorem dX3_dueBehind_12 : decode cX3_dueBehind 12 = .ok (.invokevirtual 50, 3) := by decide +kernel
theorem dX3_dueBehind_15 : decode cX3_dueBehind 15 = .ok (.invokevirtual 54, 3) := by decide +kernel
theorem dX3_dueBehind_18 : decode cX3_dueBehind 18 = .ok (.ireturn, 1) := by decide +kernel
theorem dX3_dueBehind_19 : decode cX3_dueBehind 19 = .ok (.aload_n 0, 1) := by decide +kernel
theorem dX3_dueBehind_20 : decode cX3_dueBehind 20 = .ok (.getfield 9, 3) := by decide +kernel
theorem dX3_dueBehind_23 : decode cX3_dueBehind 23 = .ok (.iload_n 2, 1) := by decide +kernel
theorem dX3_dueBehind_24 : decode cX3_dueBehind 24 = .ok (.iaload, 1) := by decide +kernel
theorem dX3_dueBehind_25 : decode cX3_dueBehind 25 = .ok (.bipush 59, 2) := by decide +kernel
theorem dX3_dueBehind_27 : decode cX3_dueBehind 27 = .ok (.if_icmp .ne 20, 3) := by decide +kernel
theorem dX3_dueBehind_30 : decode cX3_dueBehind 30 = .ok (.iload_n 1, 1) := by decide +kernel
theorem dX3_dueBehind_31 : decode cX3_dueBehind 31 = .ok (.iconst 5, 1) := by decide +kernel
theorem dX3_dueBehind_32 : decode cX3_dueBehind 32 = .ok (.if_icmp .ne 15, 3) := by decide +kernel
theorem dX3_dueBehind_35 : decode cX3_dueBehind 35 = .ok (.aload_n 0, 1) := by decide +kernel
theorem dX3_dueBehind_36 : decode cX3_dueBehind 36 = .ok (.dup, 1) := by decide +kernel
theorem dX3_dueBehind_37 : decode cX3_dueBehind 37 = .ok (.getfield 29, 3) := by decide +kernel
theorem dX3_dueBehind_40 : decode cX3_dueBehind 40 = .ok (.iconst 1, 1) := by decide +kernel
theorem dX3_dueBehind_41 : decode cX3_dueBehind 41 = .ok (.iadd, 1) := by decide +kernel
theorem dX3_dueBehind_42 : decode cX3_dueBehind 42 = .ok (.putfield 29, 3) := by decide +kernel
theorem dX3_dueBehind_45 : decode cX3_dueBehind 45 = .ok (.iconst 0, 1) := by decide +kernel
theorem dX3_dueBehind_46 : decode cX3_dueBehind 46 = .ok (.ireturn, 1) := by decide +kernel
theorem dX3_dueBehind_47 : decode cX3_dueBehind 47 = .ok (.aload_n 0, 1) := by decide +kernel
theorem dX3_dueBehind_48 : decode cX3_dueBehind 48 = .ok (.getfield 9, 3) := by decide +kernel
theorem dX3_dueBehind_51 : decode cX3_dueBehind 51 = .ok (.iload_n 2, 1) := by decide +kernel
theorem dX3_dueBehind_52 : decode cX3_dueBehind 52 = .ok (.iaload, 1) := by decide +kernel
theorem dX3_dueBehind_53 : decode cX3_dueBehind 53 = .ok (.bipush 114, 2) := by decide +kernel
theorem dX3_dueBehind_55 : decode cX3_dueBehind 55 = .ok (.if_icmp .ne 21, 3) := by decide +kernel
theorem dX3_dueBehind_58 : decode cX3_dueBehind 58 = .ok (.iload_n 1, 1) := by decide +kernel
theorem dX3_dueBehind_59 : decode cX3_dueBehind 59 = .ok (.ifCond .ne 17, 3) := by decide +kernel
theorem dX3_dueBehind_62 : decode cX3_dueBehind 62 = .ok (.aload_n 0, 1) := by decide +kernel
theorem dX3_dueBehind_63 : decode cX3_dueBehind 63 = .ok (.getfield 18, 3) := by decide +kernel
theorem dX3_dueBehind_66 : decode cX3_dueBehind 66 = .ok (.getfield 44, 3) := by decide +kernel
theorem dX3_dueBehind_69 : decode cX3_dueBehind 69 = .ok (.bipush 8, 2) := by decide +kernel
theorem dX3_dueBehind_71 : decode cX3_dueBehind 71 = .ok (.if_icmp .ge 5, 3) := by decide +kernel
theorem dX3_dueBehind_74 : decode cX3_dueBehind 74 = .ok (.iconst 1, 1) := by decide +kernel
theorem dX3_dueBehind_75 : decode cX3_dueBehind 75 = .ok (.ireturn, 1) := by decide +kernel
theorem dX3_dueBehind_76 : decode cX3_dueBehind 76 = .ok (.aload_n 0, 1) := by decide +kernel
theorem dX3_dueBehind_77 : decode cX3_dueBehind 77 = .ok (.getfield 9, 3) := by decide +kernel
theorem dX3_dueBehind_80 : decode cX3_dueBehind 80 = .ok (.iload_n 2, 1) := by decide +kernel
theorem dX3_dueBehind_81 : decode cX3_dueBehind 81 = .ok (.iaload, 1) := by decide +kernel
theorem dX3_dueBehind_82 : decode cX3_dueBehind 82 = .ok (.bipush 100, 2) := by decide +kernel
theorem dX3_dueBehind_84 : decode cX3_dueBehind 84 = .ok (.if_icmp .ne 21, 3) := by decide +kernel
theorem dX3_dueBehind_87 : decode cX3_dueBehind 87 = .ok (.iload_n 1, 1) := by decide +kernel
theorem dX3_dueBehind_88 : decode cX3_dueBehind 88 = .ok (.ifCond .ne 17, 3) := by decide +kernel
theorem dX3_dueBehind_91 : decode cX3_dueBehind 91 = .ok (.aload_n 0, 1) := by decide +kernel
theorem dX3_dueBehind_92 : decode cX3_dueBehind 92 = .ok (.getfield 32, 3) := by decide +kernel
theorem dX3_dueBehind_95 : decode cX3_dueBehind 95 = .ok (.ifCond .ne 10, 3) := by decide +kernel
theorem dX3_dueBehind_98 : decode cX3_dueBehind 98 = .ok (.aload_n 0, 1) := by decide +kernel
theorem dX3_dueBehind_99 : decode cX3_dueBehind 99 = .ok (.iconst 1, 1) := by decide +kernel
theorem dX3_dueBehind_100 : decode cX3_dueBehind 100 = .ok (.putfield 32, 3) := by decide +kernel
theorem dX3_dueBehind_103 : decode cX3_dueBehind 103 = .ok (.iconst 4, 1) := by decide +kernel
theorem dX3_dueBehind_104 : decode cX3_dueBehind 104 = .ok (.ireturn, 1) := by decide +kernel
theorem dX3_dueBehind_105 : decode cX3_dueBehind 105 = .ok (.bipush 6, 2) := by decide +kernel
theorem dX3_dueBehind_107 : decode cX3_dueBehind 107 = .ok (.ireturn, 1) := by decide +kernel
theorem dX3_dueBehindNumber_0 : decode cX3_dueBehindNumber 0 = .ok (.iload_n 1, 1) := by decide +kernel
theorem dX3_dueBehindNumber_1 : decode cX3_dueBehindNumber 1 = .ok (.tableswitch 135 1 4 #[31, 53, 75, 111], 31) := by decide +kernel
theorem dX3_dueBehindNumber_32 : decode cX3_dueBehindNumber 32 = .ok (.aload_n 0, 1) := by decide +kernel
theorem dX3_dueBehindNumber_33 : decode cX3_dueBehindNumber 33 = .ok (.iload_n 2, 1) := by decide +kernel
theorem dX3_dueBehindNumber_34 : decode cX3_dueBehindNumber 34 = .ok (.putfield 57, 3) := by decide +kernel
theorem dX3_dueBehindNumber_37 : decode cX3_dueBehindNumber 37 = .ok (.iload_n 2, 1) := by decide +kernel
theorem dX3_dueBehindNumber_38 : decode cX3_dueBehindNumber 38 = .ok (.iconst 0, 1) := by decide +kernel
theorem dX3_dueBehindNumber_39 : decode cX3_dueBehindNumber 39 = .ok (.bipush 48, 2) := by decide +kernel
theorem dX3_dueBehindNumber_41 : decode cX3_dueBehindNumber 41 = .ok (.invokestatic 60, 3) := by decide +kernel
theorem dX3_dueBehindNumber_44 : decode cX3_dueBehindNumber 44 = .ok (.ifCond .eq 7, 3) := by decide +kernel
theorem dX3_dueBehindNumber_47 : decode cX3_dueBehindNumber 47 = .ok (.iconst 2, 1) := by decide +kernel
theorem dX3_dueBehindNumber_48 : decode cX3_dueBehindNumber 48 = .ok (.goto 5, 3) := by decide +kernel
theorem dX3_dueBehindNumber_51 : decode cX3_dueBehindNumber 51 = .ok (.bipush 6, 2) := by decide +kernel
theorem dX3_dueBehindNumber_53 : decode cX3_dueBehindNumber 53 = .ok (.ireturn, 1) := by decide +kernel
theorem dX3_dueBehindNumber_54 : decode cX3_dueBehindNumber 54 = .ok (.aload_n 0, 1) := by decide +kernel
theorem dX3_dueBehindNumber_55 : decode cX3_dueBehindNumber 55 = .ok (.iload_n 2, 1) := by decide +kernel
theorem dX3_dueBehindNumber_56 : decode cX3_dueBehindNumber 56 = .ok (.putfield 64, 3) := by decide +kernel
theorem dX3_dueBehindNumber_59 : decode cX3_dueBehindNumber 59 = .ok (.iload_n 2, 1) := by decide +kernel
theorem dX3_dueBehindNumber_60 : decode cX3_dueBehindNumber 60 = .ok (.iconst 1, 1) := by decide +kernel
theorem dX3_dueBehindNumber_61 : decode cX3_dueBehindNumber 61 = .ok (.bipush 9, 2) := by decide +kernel
theorem dX3_dueBehindNumber_63 : decode cX3_dueBehindNumber 63 = .ok (.invokestatic 60, 3) := by decide +kernel
theorem dX3_dueBehindNumber_66 : decode cX3_dueBehindNumber 66 = .ok (.ifCond .eq 7, 3) := by decide +kernel
theorem dX3_dueBehindNumber_69 : decode cX3_dueBehindNumber 69 = .ok (.iconst 3, 1) := by decide +kernel
theorem dX3_dueBehindNumber_70 : decode cX3_dueBehindNumber 70 = .ok (.goto 5, 3) := by decide +kernel
theorem dX3_dueBehindNumber_73 : decode cX3_dueBehindNumber 73 = .ok (.bipush 6, 2) := by decide +kernel
theorem dX3_dueBehindNumber_75 : decode cX3_dueBehindNumber 75 = .ok (.ireturn, 1) := by decide +kernel
theorem dX3_dueBehindNumber_76 : decode cX3_dueBehindNumber 76 = .ok (.iload_n 2, 1) := by decide +kernel
theorem dX3_dueBehindNumber_77 : decode cX3_dueBehindNumber 77 = .ok (.iconst 1, 1) := by decide +kernel
theorem dX3_dueBehindNumber_78 : decode cX3_dueBehindNumber 78 = .ok (.bipush 9, 2) := by decide +kernel
theorem dX3_dueBehindNumber_80 : decode cX3_dueBehindNumber 80 = .ok (.invokestatic 60, 3) := by decide +kernel
theorem dX3_dueBehindNumber_83 : decode cX3_dueBehindNumber 83 = .ok (.ifCond .eq 26, 3) := by decide +kernel
theorem dX3_dueBehindNumber_86 : decode cX3_dueBehindNumber 86 = .ok (.aload_n 0, 1) := by decide +kernel
theorem dX3_dueBehindNumber_87 : decode cX3_dueBehindNumber 87 = .ok (.getfield 18, 3) := by decide +kernel
theorem dX3_dueBehindNumber_90 : decode cX3_dueBehindNumber 90 = .ok (.aload_n 0, 1) := by decide +kernel
theorem dX3_dueBehindNumber_91 : decode cX3_dueBehindNumber 91 = .ok (.getfield 57, 3) := by decide +kernel
theorem dX3_dueBehindNumber_94 : decode cX3_dueBehindNumber 94 = .ok (.aload_n 0, 1) := by decide +kernel
theorem dX3_dueBehindNumber_95 : decode cX3_dueBehindNumber 95 = .ok (.getfield 64, 3) := by decide +kernel
theorem dX3_dueBehindNumber_98 : decode cX3_dueBehindNumber 98 = .ok (.iload_n 2, 1) := by decide +kernel
theorem dX3_dueBehindNumber_99 : decode cX3_dueBehindNumber 99 = .ok (.invokevirtual 67, 3) := by decide +kernel
theorem dX3_dueBehindNumber_102 : decode cX3_dueBehindNumber 102 = .ok (.ifCond .eq 7, 3) := by decide +kernel
theorem dX3_dueBehindNumber_105 : decode cX3_dueBehindNumber 105 = .ok (.iconst 5, 1) := by decide +kernel
theorem dX3_dueBehindNumber_106 : decode cX3_dueBehindNumber 106 = .ok (.goto 5, 3) := by decide +kernel
theorem dX3_dueBehindNumber_109 : decode cX3_dueBehindNumber 109 = .ok (.bipush 6, 2) := by decide +kernel
theorem dX3_dueBehindNumber_111 : decode cX3_dueBehindNumber 111 = .ok (.ireturn, 1) := by decide +kernel
theorem dX3_dueBehindNumber_112 : decode cX3_dueBehindNumber 112 = .ok (.aload_n 0, 1) := by decide +kernel
theorem dX3_dueBehindNumber_113 : decode cX3_dueBehindNumber 113 = .ok (.getfield 18, 3) := by decide +kernel
theorem dX3_dueBehindNumber_116 : decode cX3_dueBehindNumber 116 = .ok (.iload_n 2, 1) := by decide +kernel
theorem dX3_dueBehindNumber_117 : decode cX3_dueBehindNumber 117 = .ok (.putfield 70, 3) := by decide +kernel
theorem dX3_dueBehindNumber_120 : decode cX3_dueBehindNumber 120 = .ok (.iload_n 2, 1) := by decide +kernel
theorem dX3_dueBehindNumber_121 : decode cX3_dueBehindNumber 121 = .ok (.iconst 1, 1) := by decide +kernel
theorem dX3_dueBehindNumber_122 : decode cX3_dueBehindNumber 122 = .ok (.iconst 3, 1) := by decide +kernel
theorem dX3_dueBehindNumber_123 : decode cX3_dueBehindNumber 123 = .ok (.invokestatic 60, 3) := by decide +kernel
theorem dX3_dueBehindNumber_126 : decode cX3_dueBehindNumber 126 = .ok (.ifCond .eq 7, 3) := by decide +kernel
theorem dX3_dueBehindNumber_129 : decode cX3_dueBehindNumber 129 = .ok (.iconst 5, 1) := by decide +kernel
theorem dX3_dueBehindNumber_130 : decode cX3_dueBehindNumber 130 = .ok (.goto 5, 3) := by decide +kernel
theorem dX3_dueBehindNumber_133 : decode cX3_dueBehindNumber 133 = .ok (.bipush 6, 2) := by decide +kernel
theorem dX3_dueBehindNumber_135 : decode cX3_dueBehindNumber 135 = .ok (.ireturn, 1) := by decide +kernel
theorem dX3_dueBehindNumber_136 : decode cX3_dueBehindNumber 136 = .ok (.bipush 6, 2) := by decide +kernel
theorem dX3_dueBehindNumber_138 : decode cX3_dueBehindNumber 138 = .ok (.ireturn, 1) := by decide +kernel
theorem dX3_numberAt_0 : decode cX3_numberAt 0 = .ok (.aload_n 0, 1) := by decide +kernel
theorem dX3_numberAt_1 : decode cX3_numberAt 1 = .ok (.getfield 9, 3) := by decide +kernel
theorem dX3_numberAt_4 : decode cX3_numberAt 4 = .ok (.iload_n 1, 1) := by decide +kernel
theorem dX3_numberAt_5 : decode cX3_numberAt 5 = .ok (.iaload, 1) := by decide +kernel
theorem dX3_numberAt_6 : decode cX3_numberAt 6 = .ok (.bipush 48, 2) := by decide +kernel
theorem dX3_numberAt_8 : decode cX3_numberAt 8 = .ok (.isub, 1) := by decide +kernel
theorem dX3_numberAt_9 : decode cX3_numberAt 9 = .ok (.istore_n 2, 1) := by decide +kernel
theorem dX3_numberAt_10 : decode cX3_numberAt 10 = .ok (.aload_n 0, 1) := by decide +kernel
theorem dX3_numberAt_11 : decode cX3_numberAt 11 = .ok (.iload_n 1, 1) := by decide +kernel
theorem dX3_numberAt_12 : decode cX3_numberAt 12 = .ok (.iconst 1, 1) := by decide +kernel
theorem dX3_numberAt_13 : decode cX3_numberAt 13 = .ok (.iadd, 1) := by decide +kernel
theorem dX3_numberAt_14 : decode cX3_numberAt 14 = .ok (.invokevirtual 47, 3) := by decide +kernel
theorem dX3_numberAt_17 : decode cX3_numberAt 17 = .ok (.ifCond .ne 5, 3) := by decide +kernel
theorem dX3_numberAt_20 : decode cX3_numberAt 20 = .ok (.iload_n 2, 1) := by decide +kernel
theorem dX3_numberAt_21 : decode cX3_numberAt 21 = .ok (.ireturn, 1) := by decide +kernel
theorem dX3_numberAt_22 : decode cX3_numberAt 22 = .ok (.iload_n 2, 1) := by decide +kernel
theorem dX3_numberAt_23 : decode cX3_numberAt 23 = .ok (.ifCond .eq 13, 3) := by decide +kernel
theorem dX3_numberAt_26 : decode cX3_numberAt 26 = .ok (.aload_n 0, 1) := by decide +kernel
theorem dX3_numberAt_27 : decode cX3_numberAt 27 = .ok (.iload_n 1, 1) := by decide +kernel
theorem dX3_numberAt_28 : decode cX3_numberAt 28 = .ok (.iconst 2, 1) := by decide +kernel
theorem dX3_numberAt_29 : decode cX3_numberAt 29 = .ok (.iadd, 1) := by decide +kernel
theorem dX3_numberAt_30 : decode cX3_numberAt 30 = .ok (.invokevirtual 47, 3) := by decide +kernel
theorem dX3_numberAt_33 : decode cX3_numberAt 33 = .ok (.ifCond .eq 5, 3) := by decide +kernel
theorem dX3_numberAt_36 : decode cX3_numberAt 36 = .ok (.iconst (-1), 1) := by decide +kernel
theorem dX3_numberAt_37 : decode cX3_numberAt 37 = .ok (.ireturn, 1) := by decide +kernel
theorem dX3_numberAt_38 : decode cX3_numberAt 38 = .ok (.bipush 10, 2) := by decide +kernel
theorem dX3_numberAt_40 : decode cX3_numberAt 40 = .ok (.iload_n 2, 1) := by decide +kernel
theorem dX3_numberAt_41 : decode cX3_numberAt 41 = .ok (.imul, 1) := by decide +kernel
theorem dX3_numberAt_42 : decode cX3_numberAt 42 = .ok (.aload_n 0, 1) := by decide +kernel
theorem dX3_numberAt_43 : decode cX3_numberAt 43 = .ok (.getfield 9, 3) := by decide +kernel
theorem dX3_numberAt_46 : decode cX3_numberAt 46 = .ok (.iload_n 1, 1) := by decide +kernel
theorem dX3_numberAt_47 : decode cX3_numberAt 47 = .ok (.iconst 1, 1) := by decide +kernel
theorem dX3_numberAt_48 : decode cX3_numberAt 48 = .ok (.iadd, 1) := by decide +kernel
theorem dX3_numberAt_49 : decode cX3_numberAt 49 = .ok (.iaload, 1) := by decide +kernel
theorem dX3_numberAt_50 : decode cX3_numberAt 50 = .ok (.iadd, 1) := by decide +kernel
theorem dX3_numberAt_51 : decode cX3_numberAt 51 = .ok (.bipush 48, 2) := by decide +kernel
theorem dX3_numberAt_53 : decode cX3_numberAt 53 = .ok (.isub, 1) := by decide +kernel
theorem dX3_numberAt_54 : decode cX3_numberAt 54 = .ok (.ireturn, 1) := by decide +kernel
