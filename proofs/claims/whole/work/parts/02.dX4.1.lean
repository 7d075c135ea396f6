theorem dX4_odds_86 : decode cX4_odds 86 = .ok (.aload_n 0, 1) := by decide +kernel
theorem dX4_odds_87 : decode cX4_odds 87 = .ok (.getfield 19, 3) := by decide +kernel
theorem dX4_odds_90 : decode cX4_odds 90 = .ok (.getfield 151, 3) := by decide +kernel
theorem dX4_odds_93 : decode cX4_odds 93 = .ok (.invokestatic 212, 3) := by decide +kernel
theorem dX4_odds_96 : decode cX4_odds 96 = .ok (.istore 6, 2) := by decide +kernel
theorem dX4_odds_98 : decode cX4_odds 98 = .ok (.iload 4, 2) := by decide +kernel
theorem dX4_odds_100 : decode cX4_odds 100 = .ok (.ifCond .ne 8, 3) := by decide +kernel
theorem dX4_odds_103 : decode cX4_odds 103 = .ok (.iload 5, 2) := by decide +kernel
theorem dX4_odds_105 : decode cX4_odds 105 = .ok (.goto 10, 3) := by decide +kernel
theorem dX4_odds_108 : decode cX4_odds 108 = .ok (.aload_n 0, 1) := by decide +kernel
theorem dX4_odds_109 : decode cX4_odds 109 = .ok (.getfield 19, 3) := by decide +kernel
theorem dX4_odds_112 : decode cX4_odds 112 = .ok (.getfield 151, 3) := by decide +kernel
theorem dX4_odds_115 : decode cX4_odds 115 = .ok (.iload 6, 2) := by decide +kernel
theorem dX4_odds_117 : decode cX4_odds 117 = .ok (.idiv, 1) := by decide +kernel
theorem dX4_odds_118 : decode cX4_odds 118 = .ok (.ireturn, 1) := by decide +kernel
theorem dX4_follow_0 : decode cX4_follow 0 = .ok (.aload_n 0, 1) := by decide +kernel
theorem dX4_follow_1 : decode cX4_follow 1 = .ok (.getfield 35, 3) := by decide +kernel
theorem dX4_follow_4 : decode cX4_follow 4 = .ok (.aload_n 0, 1) := by decide +kernel
theorem dX4_follow_5 : decode cX4_follow 5 = .ok (.getfield 28, 3) := by decide +kernel
theorem dX4_follow_8 : decode cX4_follow 8 = .ok (.invokevirtual 176, 3) := by decide +kernel
theorem dX4_follow_11 : decode cX4_follow 11 = .ok (.aload_n 0, 1) := by decide +kernel
theorem dX4_follow_12 : decode cX4_follow 12 = .ok (.getfield 35, 3) := by decide +kernel
theorem dX4_follow_15 : decode cX4_follow 15 = .ok (.iload_n 1, 1) := by decide +kernel
theorem dX4_follow_16 : decode cX4_follow 16 = .ok (.iload_n 2, 1) := by decide +kernel
theorem dX4_follow_17 : decode cX4_follow 17 = .ok (.invokevirtual 215, 3) := by decide +kernel
theorem dX4_follow_20 : decode cX4_follow 20 = .ok (.aload_n 0, 1) := by decide +kernel
theorem dX4_follow_21 : decode cX4_follow 21 = .ok (.getfield 35, 3) := by decide +kernel
theorem dX4_follow_24 : decode cX4_follow 24 = .ok (.iload_n 3, 1) := by decide +kernel
theorem dX4_follow_25 : decode cX4_follow 25 = .ok (.invokevirtual 182, 3) := by decide +kernel
theorem dX4_follow_28 : decode cX4_follow 28 = .ok (.return_, 1) := by decide +kernel
theorem dX4_followChanged_0 : decode cX4_followChanged 0 = .ok (.aload_n 0, 1) := by decide +kernel
theorem dX4_followChanged_1 : decode cX4_followChanged 1 = .ok (.getfield 35, 3) := by decide +kernel
theorem dX4_followChanged_4 : decode cX4_followChanged 4 = .ok (.aload_n 0, 1) := by decide +kernel
theorem dX4_followChanged_5 : decode cX4_followChanged 5 = .ok (.getfield 28, 3) := by decide +kernel
theorem dX4_followChanged_8 : decode cX4_followChanged 8 = .ok (.invokevirtual 176, 3) := by decide +kernel
theorem dX4_followChanged_11 : decode cX4_followChanged 11 = .ok (.aload_n 0, 1) := by decide +kernel
theorem dX4_followChanged_12 : decode cX4_followChanged 12 = .ok (.getfield 35, 3) := by decide +kernel
theorem dX4_followChanged_15 : decode cX4_followChanged 15 = .ok (.getfield 217, 3) := by decide +kernel
theorem dX4_followChanged_18 : decode cX4_followChanged 18 = .ok (.iload_n 1, 1) := by decide +kernel
theorem dX4_followChanged_19 : decode cX4_followChanged 19 = .ok (.iload_n 2, 1) := by decide +kernel
theorem dX4_followChanged_20 : decode cX4_followChanged 20 = .ok (.invokevirtual 157, 3) := by decide +kernel
theorem dX4_followChanged_23 : decode cX4_followChanged 23 = .ok (.aload_n 0, 1) := by decide +kernel
theorem dX4_followChanged_24 : decode cX4_followChanged 24 = .ok (.getfield 35, 3) := by decide +kernel
theorem dX4_followChanged_27 : decode cX4_followChanged 27 = .ok (.iload_n 3, 1) := by decide +kernel
theorem dX4_followChanged_28 : decode cX4_followChanged 28 = .ok (.iload 4, 2) := by decide +kernel
theorem dX4_followChanged_30 : decode cX4_followChanged 30 = .ok (.invokevirtual 215, 3) := by decide +kernel
theorem dX4_followChanged_33 : decode cX4_followChanged 33 = .ok (.aload_n 0, 1) := by decide +kernel
theorem dX4_followChanged_34 : decode cX4_followChanged 34 = .ok (.getfield 35, 3) := by decide +kernel
theorem dX4_followChanged_37 : decode cX4_followChanged 37 = .ok (.iload 5, 2) := by decide +kernel
theorem dX4_followChanged_39 : decode cX4_followChanged 39 = .ok (.invokevirtual 182, 3) := by decide +kernel
theorem dX4_followChanged_42 : decode cX4_followChanged 42 = .ok (.return_, 1) := by decide +kernel
theorem dX4_greatestShared_0 : decode cX4_greatestShared 0 = .ok (.iload_n 1, 1) := by decide +kernel
theorem dX4_greatestShared_1 : decode cX4_greatestShared 1 = .ok (.istore_n 2, 1) := by decide +kernel
theorem dX4_greatestShared_2 : decode cX4_greatestShared 2 = .ok (.iload_n 2, 1) := by decide +kernel
theorem dX4_greatestShared_3 : decode cX4_greatestShared 3 = .ok (.iconst 1, 1) := by decide +kernel
theorem dX4_greatestShared_4 : decode cX4_greatestShared 4 = .ok (.if_icmp .le 23, 3) := by decide +kernel
theorem dX4_greatestShared_7 : decode cX4_greatestShared 7 = .ok (.iload_n 0, 1) := by decide +kernel
theorem dX4_greatestShared_8 : decode cX4_greatestShared 8 = .ok (.iload_n 2, 1) := by decide +kernel
theorem dX4_greatestShared_9 : decode cX4_greatestShared 9 = .ok (.irem, 1) := by decide +kernel
theorem dX4_greatestShared_10 : decode cX4_greatestShared 10 = .ok (.ifCond .ne 11, 3) := by decide +kernel
theorem dX4_greatestShared_13 : decode cX4_greatestShared 13 = .ok (.iload_n 1, 1) := by decide +kernel
theorem dX4_greatestShared_14 : decode cX4_greatestShared 14 = .ok (.iload_n 2, 1) := by decide +kernel
theorem dX4_greatestShared_15 : decode cX4_greatestShared 15 = .ok (.irem, 1) := by decide +kernel
theorem dX4_greatestShared_16 : decode cX4_greatestShared 16 = .ok (.ifCond .ne 5, 3) := by decide +kernel
theorem dX4_greatestShared_19 : decode cX4_greatestShared 19 = .ok (.iload_n 2, 1) := by decide +kernel
theorem dX4_greatestShared_20 : decode cX4_greatestShared 20 = .ok (.ireturn, 1) := by decide +kernel
theorem dX4_greatestShared_21 : decode cX4_greatestShared 21 = .ok (.iinc 2 (-1), 3) := by decide +kernel
theorem dX4_greatestShared_24 : decode cX4_greatestShared 24 = .ok (.goto (-22), 3) := by decide +kernel
theorem dX4_greatestShared_27 : decode cX4_greatestShared 27 = .ok (.iconst 1, 1) := by decide +kernel
theorem dX4_greatestShared_28 : decode cX4_greatestShared 28 = .ok (.ireturn, 1) := by decide +kernel
theorem dX4_hears_0 : decode cX4_hears 0 = .ok (.aload_n 0, 1) := by decide +kernel
theorem dX4_hears_1 : decode cX4_hears 1 = .ok (.getfield 19, 3) := by decide +kernel
theorem dX4_hears_4 : decode cX4_hears 4 = .ok (.iload_n 1, 1) := by decide +kernel
theorem dX4_hears_5 : decode cX4_hears 5 = .ok (.invokevirtual 97, 3) := by decide +kernel
theorem dX4_hears_8 : decode cX4_hears 8 = .ok (.ifCond .eq 19, 3) := by decide +kernel
theorem dX4_hears_11 : decode cX4_hears 11 = .ok (.iload_n 2, 1) := by decide +kernel
theorem dX4_hears_12 : decode cX4_hears 12 = .ok (.invokestatic 173, 3) := by decide +kernel
theorem dX4_hears_15 : decode cX4_hears 15 = .ok (.ifCond .eq 12, 3) := by decide +kernel
theorem dX4_hears_18 : decode cX4_hears 18 = .ok (.iload_n 3, 1) := by decide +kernel
theorem dX4_hears_19 : decode cX4_hears 19 = .ok (.iconst 0, 1) := by decide +kernel
theorem dX4_hears_20 : decode cX4_hears 20 = .ok (.iconst 1, 1) := by decide +kernel
theorem dX4_hears_21 : decode cX4_hears 21 = .ok (.invokestatic 63, 3) := by decide +kernel
theorem dX4_hears_24 : decode cX4_hears 24 = .ok (.ifCond .ne 5, 3) := by decide +kernel
theorem dX4_hears_27 : decode cX4_hears 27 = .ok (.iconst (-1), 1) := by decide +kernel
theorem dX4_hears_28 : decode cX4_hears 28 = .ok (.ireturn, 1) := by decide +kernel
theorem dX4_hears_29 : decode cX4_hears 29 = .ok (.aload_n 0, 1) := by decide +kernel
theorem dX4_hears_30 : decode cX4_hears 30 = .ok (.getfield 88, 3) := by decide +kernel
theorem dX4_hears_33 : decode cX4_hears 33 = .ok (.bipush 6, 2) := by decide +kernel
theorem dX4_hears_35 : decode cX4_hears 35 = .ok (.if_icmp .lt 6, 3) := by decide +kernel
theorem dX4_hears_38 : decode cX4_hears 38 = .ok (.bipush (-3), 2) := by decide +kernel
theorem dX4_hears_40 : decode cX4_hears 40 = .ok (.ireturn, 1) := by decide +kernel
theorem dX4_hears_41 : decode cX4_hears 41 = .ok (.aload_n 0, 1) := by decide +kernel
theorem dX4_hears_42 : decode cX4_hears 42 = .ok (.getfield 50, 3) := by decide +kernel
theorem dX4_hears_45 : decode cX4_hears 45 = .ok (.aload_n 0, 1) := by decide +kernel
theorem dX4_hears_46 : decode cX4_hears 46 = .ok (.getfield 88, 3) := by decide +kernel
theorem dX4_hears_49 : decode cX4_hears 49 = .ok (.iload_n 1, 1) := by decide +kernel
theorem dX4_hears_50 : decode cX4_hears 50 = .ok (.iastore, 1) := by decide +kernel
theorem dX4_hears_51 : decode cX4_hears 51 = .ok (.aload_n 0, 1) := by decide +kernel
theorem dX4_hears_52 : decode cX4_hears 52 = .ok (.getfield 54, 3) := by decide +kernel
theorem dX4_hears_55 : decode cX4_hears 55 = .ok (.aload_n 0, 1) := by decide +kernel
theorem dX4_hears_56 : decode cX4_hears 56 = .ok (.getfield 88, 3) := by decide +kernel
theorem dX4_hears_59 : decode cX4_hears 59 = .ok (.iload_n 2, 1) := by decide +kernel
theorem dX4_hears_60 : decode cX4_hears 60 = .ok (.iastore, 1) := by decide +kernel
theorem dX4_hears_61 : decode cX4_hears 61 = .ok (.aload_n 0, 1) := by decide +kernel
theorem dX4_hears_62 : decode cX4_hears 62 = .ok (.getfield 57, 3) := by decide +kernel
theorem dX4_hears_65 : decode cX4_hears 65 = .ok (.aload_n 0, 1) := by decide +kernel
theorem dX4_hears_66 : decode cX4_hears 66 = .ok (.getfield 88, 3) := by decide +kernel
theorem dX4_hears_69 : decode cX4_hears 69 = .ok (.iload_n 3, 1) := by decide +kernel
theorem dX4_hears_70 : decode cX4_hears 70 = .ok (.iconst 1, 1) := by decide +kernel
theorem dX4_hears_71 : decode cX4_hears 71 = .ok (.if_icmp .ne 7, 3) := by decide +kernel
theorem dX4_hears_74 : decode cX4_hears 74 = .ok (.iconst 1, 1) := by decide +kernel
theorem dX4_hears_75 : decode cX4_hears 75 = .ok (.goto 4, 3) := by decide +kernel
theorem dX4_hears_78 : decode cX4_hears 78 = .ok (.iconst 0, 1) := by decide +kernel
theorem dX4_hears_79 : decode cX4_hears 79 = .ok (.bastore, 1) := by decide +kernel
theorem dX4_hears_80 : decode cX4_hears 80 = .ok (.aload_n 0, 1) := by decide +kernel
theorem dX4_hears_81 : decode cX4_hears 81 = .ok (.dup, 1) := by decide +kernel
theorem dX4_hears_82 : decode cX4_hears 82 = .ok (.getfield 88, 3) := by decide +kernel
theorem dX4_hears_85 : decode cX4_hears 85 = .ok (.iconst 1, 1) := by decide +kernel
theorem dX4_hears_86 : decode cX4_hears 86 = .ok (.iadd, 1) := by decide +kernel
theorem dX4_hears_87 : decode cX4_hears 87 = .ok (.putfield 88, 3) := by decide +kernel
theorem dX4_hears_90 : decode cX4_hears 90 = .ok (.aload_n 0, 1) := by decide +kernel
theorem dX4_hears_91 : decode cX4_hears 91 = .ok (.getfield 88, 3) := by decide +kernel
theorem dX4_hears_94 : decode cX4_hears 94 = .ok (.ireturn, 1) := by decide +kernel
theorem dX4_forget_0 : decode cX4_forget 0 = .ok (.aload_n 0, 1) := by decide +kernel
theorem dX4_forget_1 : decode cX4_forget 1 = .ok (.getfield 88, 3) := by decide +kernel
theorem dX4_forget_4 : decode cX4_forget 4 = .ok (.istore_n 1, 1) := by decide +kernel
theorem dX4_forget_5 : decode cX4_forget 5 = .ok (.aload_n 0, 1) := by decide +kernel
theorem dX4_forget_6 : decode cX4_forget 6 = .ok (.iconst 0, 1) := by decide +kernel
theorem dX4_forget_7 : decode cX4_forget 7 = .ok (.putfield 88, 3) := by decide +kernel
theorem dX4_forget_10 : decode cX4_forget 10 = .ok (.iload_n 1, 1) := by decide +kernel
theorem dX4_forget_11 : decode cX4_forget 11 = .ok (.ireturn, 1) := by decide +kernel
theorem dX4_gusts_0 : decode cX4_gusts 0 = .ok (.iload_n 1, 1) := by decide +kernel
theorem dX4_gusts_1 : decode cX4_gusts 1 = .ok (.iconst 0, 1) := by decide +kernel
theorem dX4_gusts_2 : decode cX4_gusts 2 = .ok (.iconst 1, 1) := by decide +kernel
theorem dX4_gusts_3 : decode cX4_gusts 3 = .ok (.invokestatic 63, 3) := by decide +kernel
theorem dX4_gusts_6 : decode cX4_gusts 6 = .ok (.ifCond .ne 5, 3) := by decide +kernel
theorem dX4_gusts_9 : decode cX4_gusts 9 = .ok (.iconst (-1), 1) := by decide +kernel
theorem dX4_gusts_10 : decode cX4_gusts 10 = .ok (.ireturn, 1) := by decide +kernel
theorem dX4_gusts_11 : decode cX4_gusts 11 = .ok (.iconst 0, 1) := by decide +kernel
theorem dX4_gusts_12 : decode cX4_gusts 12 = .ok (.istore_n 2, 1) := by decide +kernel
theorem dX4_gusts_13 : decode cX4_gusts 13 = .ok (.bipush (-9), 2) := by decide +kernel
theorem dX4_gusts_15 : decode cX4_gusts 15 = .ok (.istore_n 3, 1) := by decide +kernel
theorem dX4_gusts_16 : decode cX4_gusts 16 = .ok (.iconst 0, 1) := by decide +kernel
theorem dX4_gusts_17 : decode cX4_gusts 17 = .ok (.istore 4, 2) := by decide +kernel
theorem dX4_gusts_19 : decode cX4_gusts 19 = .ok (.iload 4, 2) := by decide +kernel
theorem dX4_gusts_21 : decode cX4_gusts 21 = .ok (.aload_n 0, 1) := by decide +kernel
theorem dX4_gusts_22 : decode cX4_gusts 22 = .ok (.getfield 19, 3) := by decide +kernel
theorem dX4_gusts_25 : decode cX4_gusts 25 = .ok (.getfield 151, 3) := by decide +kernel
theorem dX4_gusts_28 : decode cX4_gusts 28 = .ok (.if_icmp .ge 63, 3) := by decide +kernel
theorem dX4_gusts_31 : decode cX4_gusts 31 = .ok (.iconst 1, 1) := by decide +kernel
theorem dX4_gusts_32 : decode cX4_gusts 32 = .ok (.istore 5, 2) := by decide +kernel
theorem dX4_gusts_34 : decode cX4_gusts 34 = .ok (.iload 5, 2) := by decide +kernel
theorem dX4_gusts_36 : decode cX4_gusts 36 = .ok (.bipush 9, 2) := by decide +kernel
theorem dX4_gusts_38 : decode cX4_gusts 38 = .ok (.if_icmp .gt 47, 3) := by decide +kernel
theorem dX4_gusts_41 : decode cX4_gusts 41 = .ok (.aload_n 0, 1) := by decide +kernel
theorem dX4_gusts_42 : decode cX4_gusts 42 = .ok (.iload 4, 2) := by decide +kernel
theorem dX4_gusts_44 : decode cX4_gusts 44 = .ok (.iload 5, 2) := by decide +kernel
theorem dX4_gusts_46 : decode cX4_gusts 46 = .ok (.bipush 20, 2) := by decide +kernel
theorem dX4_gusts_48 : decode cX4_gusts 48 = .ok (.invokevirtual 191, 3) := by decide +kernel
theorem dX4_gusts_51 : decode cX4_gusts 51 = .ok (.aload_n 0, 1) := by decide +kernel
theorem dX4_gusts_52 : decode cX4_gusts 52 = .ok (.invokevirtual 220, 3) := by decide +kernel
theorem dX4_gusts_55 : decode cX4_gusts 55 = .ok (.ifCond .eq 24, 3) := by decide +kernel
theorem dX4_gusts_58 : decode cX4_gusts 58 = .ok (.iinc 2 1, 3) := by decide +kernel
theorem dX4_gusts_61 : decode cX4_gusts 61 = .ok (.iload_n 3, 1) := by decide +kernel
theorem dX4_gusts_62 : decode cX4_gusts 62 = .ok (.bipush (-9), 2) := by decide +kernel
theorem dX4_gusts_64 : decode cX4_gusts 64 = .ok (.if_icmp .ne 13, 3) := by decide +kernel
theorem dX4_gusts_67 : decode cX4_gusts 67 = .ok (.iload 4, 2) := by decide +kernel
theorem dX4_gusts_69 : decode cX4_gusts 69 = .ok (.iload 5, 2) := by decide +kernel
theorem dX4_gusts_71 : decode cX4_gusts 71 = .ok (.invokestatic 201, 3) := by decide +kernel
theorem dX4_gusts_74 : decode cX4_gusts 74 = .ok (.goto 4, 3) := by decide +kernel
theorem dX4_gusts_77 : decode cX4_gusts 77 = .ok (.iload_n 3, 1) := by decide +kernel
theorem dX4_gusts_78 : decode cX4_gusts 78 = .ok (.istore_n 3, 1) := by decide +kernel
theorem dX4_gusts_79 : decode cX4_gusts 79 = .ok (.iinc 5 1, 3) := by decide +kernel
theorem dX4_gusts_82 : decode cX4_gusts 82 = .ok (.goto (-48), 3) := by decide +kernel
theorem dX4_gusts_85 : decode cX4_gusts 85 = .ok (.iinc 4 1, 3) := by decide +kernel
theorem dX4_gusts_88 : decode cX4_gusts 88 = .ok (.goto (-69), 3) := by decide +kernel
theorem dX4_gusts_91 : decode cX4_gusts 91 = .ok (.iload_n 1, 1) := by decide +kernel
theorem dX4_gusts_92 : decode cX4_gusts 92 = .ok (.ifCond .ne 7, 3) := by decide +kernel
theorem dX4_gusts_95 : decode cX4_gusts 95 = .ok (.iload_n 2, 1) := by decide +kernel
theorem dX4_gusts_96 : decode cX4_gusts 96 = .ok (.goto 4, 3) := by decide +kernel
theorem dX4_gusts_99 : decode cX4_gusts 99 = .ok (.iload_n 3, 1) := by decide +kernel
theorem dX4_gusts_100 : decode cX4_gusts 100 = .ok (.ireturn, 1) := by decide +kernel
theorem dX4_listen_0 : decode cX4_listen 0 = .ok (.iload_n 1, 1) := by decide +kernel
theorem dX4_listen_1 : decode cX4_listen 1 = .ok (.invokestatic 173, 3) := by decide +kernel
theorem dX4_listen_4 : decode cX4_listen 4 = .ok (.ifCond .ne 5, 3) := by decide +kernel
theorem dX4_listen_7 : decode cX4_listen 7 = .ok (.iconst (-1), 1) := by decide +kernel
theorem dX4_listen_8 : decode cX4_listen 8 = .ok (.ireturn, 1) := by decide +kernel
theorem dX4_listen_9 : decode cX4_listen 9 = .ok (.aload_n 0, 1) := by decide +kernel
theorem dX4_listen_10 : decode cX4_listen 10 = .ok (.iload_n 1, 1) := by decide +kernel
theorem dX4_listen_11 : decode cX4_listen 11 = .ok (.invokevirtual 224, 3) := by decide +kernel
theorem dX4_listen_14 : decode cX4_listen 14 = .ok (.istore_n 2, 1) := by decide +kernel
theorem dX4_listen_15 : decode cX4_listen 15 = .ok (.iload_n 2, 1) := by decide +kernel
theorem dX4_listen_16 : decode cX4_listen 16 = .ok (.iconst 1, 1) := by decide +kernel
theorem dX4_listen_17 : decode cX4_listen 17 = .ok (.if_icmp .gt 6, 3) := by decide +kernel
theorem dX4_listen_20 : decode cX4_listen 20 = .ok (.bipush (-9), 2) := by decide +kernel
theorem dX4_listen_22 : decode cX4_listen 22 = .ok (.ireturn, 1) := by decide +kernel
theorem dX4_listen_23 : decode cX4_listen 23 = .ok (.bipush (-9), 2) := by decide +kernel
theorem dX4_listen_25 : decode cX4_listen 25 = .ok (.istore_n 3, 1) := by decide +kernel
theorem dX4_listen_26 : decode cX4_listen 26 = .ok (.iload_n 2, 1) := by decide +kernel
theorem dX4_listen_27 : decode cX4_listen 27 = .ok (.iconst 1, 1) := by decide +kernel
theorem dX4_listen_28 : decode cX4_listen 28 = .ok (.iadd, 1) := by decide +kernel
theorem dX4_listen_29 : decode cX4_listen 29 = .ok (.istore 4, 2) := by decide +kernel
theorem dX4_listen_31 : decode cX4_listen 31 = .ok (.iconst 0, 1) := by decide +kernel
theorem dX4_listen_32 : decode cX4_listen 32 = .ok (.istore 5, 2) := by decide +kernel
theorem dX4_listen_34 : decode cX4_listen 34 = .ok (.iload 5, 2) := by decide +kernel
theorem dX4_listen_36 : decode cX4_listen 36 = .ok (.aload_n 0, 1) := by decide +kernel
theorem dX4_listen_37 : decode cX4_listen 37 = .ok (.getfield 19, 3) := by decide +kernel
theorem dX4_listen_40 : decode cX4_listen 40 = .ok (.getfield 151, 3) := by decide +kernel
theorem dX4_listen_43 : decode cX4_listen 43 = .ok (.if_icmp .ge 44, 3) := by decide +kernel
theorem dX4_listen_46 : decode cX4_listen 46 = .ok (.aload_n 0, 1) := by decide +kernel
theorem dX4_listen_47 : decode cX4_listen 47 = .ok (.getfield 60, 3) := by decide +kernel
theorem dX4_listen_50 : decode cX4_listen 50 = .ok (.iload 5, 2) := by decide +kernel
theorem dX4_listen_52 : decode cX4_listen 52 = .ok (.iaload, 1) := by decide +kernel
theorem dX4_listen_53 : decode cX4_listen 53 = .ok (.iload_n 2, 1) := by decide +kernel
theorem dX4_listen_54 : decode cX4_listen 54 = .ok (.aload_n 0, 1) := by decide +kernel
theorem dX4_listen_55 : decode cX4_listen 55 = .ok (.getfield 60, 3) := by decide +kernel
theorem dX4_listen_58 : decode cX4_listen 58 = .ok (.iload 5, 2) := by decide +kernel
theorem dX4_listen_60 : decode cX4_listen 60 = .ok (.iaload, 1) := by decide +kernel
theorem dX4_listen_61 : decode cX4_listen 61 = .ok (.isub, 1) := by decide +kernel
theorem dX4_listen_62 : decode cX4_listen 62 = .ok (.invokestatic 227, 3) := by decide +kernel
theorem dX4_listen_65 : decode cX4_listen 65 = .ok (.istore 6, 2) := by decide +kernel
theorem dX4_listen_67 : decode cX4_listen 67 = .ok (.iload 6, 2) := by decide +kernel
theorem dX4_listen_69 : decode cX4_listen 69 = .ok (.iload 4, 2) := by decide +kernel
theorem dX4_listen_71 : decode cX4_listen 71 = .ok (.if_icmp .ge 10, 3) := by decide +kernel
theorem dX4_listen_74 : decode cX4_listen 74 = .ok (.iload 5, 2) := by decide +kernel
theorem dX4_listen_76 : decode cX4_listen 76 = .ok (.istore_n 3, 1) := by decide +kernel
theorem dX4_listen_77 : decode cX4_listen 77 = .ok (.iload 6, 2) := by decide +kernel
theorem dX4_listen_79 : decode cX4_listen 79 = .ok (.istore 4, 2) := by decide +kernel
theorem dX4_listen_81 : decode cX4_listen 81 = .ok (.iinc 5 1, 3) := by decide +kernel
theorem dX4_listen_84 : decode cX4_listen 84 = .ok (.goto (-50), 3) := by decide +kernel
theorem dX4_listen_87 : decode cX4_listen 87 = .ok (.iload_n 3, 1) := by decide +kernel
theorem dX4_listen_88 : decode cX4_listen 88 = .ok (.ireturn, 1) := by decide +kernel
theorem dX4_countStrikes_0 : decode cX4_countStrikes 0 = .ok (.iconst 0, 1) := by decide +kernel
theorem dX4_countStrikes_1 : decode cX4_countStrikes 1 = .ok (.istore_n 2, 1) := by decide +kernel
theorem dX4_countStrikes_2 : decode cX4_countStrikes 2 = .ok (.iload_n 2, 1) := by decide +kernel
theorem dX4_countStrikes_3 : decode cX4_countStrikes 3 = .ok (.bipush 8, 2) := by decide +kernel
theorem dX4_countStrikes_5 : decode cX4_countStrikes 5 = .ok (.if_icmp .ge 16, 3) := by decide +kernel
theorem dX4_countStrikes_8 : decode cX4_countStrikes 8 = .ok (.aload_n 0, 1) := by decide +kernel
theorem dX4_countStrikes_9 : decode cX4_countStrikes 9 = .ok (.getfield 60, 3) := by decide +kernel
theorem dX4_countStrikes_12 : decode cX4_countStrikes 12 = .ok (.iload_n 2, 1) := by decide +kernel
theorem dX4_countStrikes_13 : decode cX4_countStrikes 13 = .ok (.iconst 0, 1) := by decide +kernel
theorem dX4_countStrikes_14 : decode cX4_countStrikes 14 = .ok (.iastore, 1) := by decide +kernel
theorem dX4_countStrikes_15 : decode cX4_countStrikes 15 = .ok (.iinc 2 1, 3) := by decide +kernel
theorem dX4_countStrikes_18 : decode cX4_countStrikes 18 = .ok (.goto (-16), 3) := by decide +kernel
theorem dX4_countStrikes_21 : decode cX4_countStrikes 21 = .ok (.iconst 0, 1) := by decide +kernel
theorem dX4_countStrikes_22 : decode cX4_countStrikes 22 = .ok (.istore_n 2, 1) := by decide +kernel
theorem dX4_countStrikes_23 : decode cX4_countStrikes 23 = .ok (.iconst 0, 1) := by decide +kernel
theorem dX4_countStrikes_24 : decode cX4_countStrikes 24 = .ok (.istore_n 3, 1) := by decide +kernel
theorem dX4_countStrikes_25 : decode cX4_countStrikes 25 = .ok (.iload_n 3, 1) := by decide +kernel
theorem dX4_countStrikes_26 : decode cX4_countStrikes 26 = .ok (.aload_n 0, 1) := by decide +kernel
theorem dX4_countStrikes_27 : decode cX4_countStrikes 27 = .ok (.getfield 19, 3) := by decide +kernel
theorem dX4_countStrikes_30 : decode cX4_countStrikes 30 = .ok (.getfield 151, 3) := by decide +kernel
theorem dX4_countStrikes_33 : decode cX4_countStrikes 33 = .ok (.if_icmp .ge 49, 3) := by decide +kernel
theorem dX4_countStrikes_36 : decode cX4_countStrikes 36 = .ok (.iconst 1, 1) := by decide +kernel
theorem dX4_countStrikes_37 : decode cX4_countStrikes 37 = .ok (.istore 4, 2) := by decide +kernel
theorem dX4_countStrikes_39 : decode cX4_countStrikes 39 = .ok (.iload 4, 2) := by decide +kernel
theorem dX4_countStrikes_41 : decode cX4_countStrikes 41 = .ok (.bipush 9, 2) := by decide +kernel
theorem dX4_countStrikes_43 : decode cX4_countStrikes 43 = .ok (.if_icmp .gt 33, 3) := by decide +kernel
theorem dX4_countStrikes_46 : decode cX4_countStrikes 46 = .ok (.aload_n 0, 1) := by decide +kernel
theorem dX4_countStrikes_47 : decode cX4_countStrikes 47 = .ok (.iload_n 3, 1) := by decide +kernel
theorem dX4_countStrikes_48 : decode cX4_countStrikes 48 = .ok (.iload 4, 2) := by decide +kernel
theorem dX4_countStrikes_50 : decode cX4_countStrikes 50 = .ok (.bipush 20, 2) := by decide +kernel
theorem dX4_countStrikes_52 : decode cX4_countStrikes 52 = .ok (.invokevirtual 191, 3) := by decide +kernel
theorem dX4_countStrikes_55 : decode cX4_countStrikes 55 = .ok (.aload_n 0, 1) := by decide +kernel
theorem dX4_countStrikes_56 : decode cX4_countStrikes 56 = .ok (.invokevirtual 220, 3) := by decide +kernel
theorem dX4_countStrikes_59 : decode cX4_countStrikes 59 = .ok (.ifCond .eq 11, 3) := by decide +kernel
theorem dX4_countStrikes_62 : decode cX4_countStrikes 62 = .ok (.iinc 2 1, 3) := by decide +kernel
theorem dX4_countStrikes_65 : decode cX4_countStrikes 65 = .ok (.aload_n 0, 1) := by decide +kernel
theorem dX4_countStrikes_66 : decode cX4_countStrikes 66 = .ok (.iload_n 1, 1) := by decide +kernel
theorem dX4_countStrikes_67 : decode cX4_countStrikes 67 = .ok (.invokevirtual 230, 3) := by decide +kernel
theorem dX4_countStrikes_70 : decode cX4_countStrikes 70 = .ok (.iinc 4 1, 3) := by decide +kernel
theorem dX4_countStrikes_73 : decode cX4_countStrikes 73 = .ok (.goto (-34), 3) := by decide +kernel
theorem dX4_countStrikes_76 : decode cX4_countStrikes 76 = .ok (.iinc 3 1, 3) := by decide +kernel
theorem dX4_countStrikes_79 : decode cX4_countStrikes 79 = .ok (.goto (-54), 3) := by decide +kernel
theorem dX4_countStrikes_82 : decode cX4_countStrikes 82 = .ok (.iload_n 2, 1) := by decide +kernel
theorem dX4_countStrikes_83 : decode cX4_countStrikes 83 = .ok (.ireturn, 1) := by decide +kernel
theorem dX4_addStrikes_0 : decode cX4_addStrikes 0 = .ok (.iconst 0, 1) := by decide +kernel
theorem dX4_addStrikes_1 : decode cX4_addStrikes 1 = .ok (.istore_n 2, 1) := by decide +kernel
theorem dX4_addStrikes_2 : decode cX4_addStrikes 2 = .ok (.iload_n 2, 1) := by decide +kernel
theorem dX4_addStrikes_3 : decode cX4_addStrikes 3 = .ok (.aload_n 0, 1) := by decide +kernel
theorem dX4_addStrikes_4 : decode cX4_addStrikes 4 = .ok (.getfield 19, 3) := by decide +kernel
theorem dX4_addStrikes_7 : decode cX4_addStrikes 7 = .ok (.getfield 151, 3) := by decide +kernel
theorem dX4_addStrikes_10 : decode cX4_addStrikes 10 = .ok (.if_icmp .ge 31, 3) := by decide +kernel
theorem dX4_addStrikes_13 : decode cX4_addStrikes 13 = .ok (.aload_n 0, 1) := by decide +kernel
theorem dX4_addStrikes_14 : decode cX4_addStrikes 14 = .ok (.getfield 35, 3) := by decide +kernel
theorem dX4_addStrikes_17 : decode cX4_addStrikes 17 = .ok (.iload_n 2, 1) := by decide +kernel
theorem dX4_addStrikes_18 : decode cX4_addStrikes 18 = .ok (.iload_n 1, 1) := by decide +kernel
theorem dX4_addStrikes_19 : decode cX4_addStrikes 19 = .ok (.invokevirtual 208, 3) := by decide +kernel
theorem dX4_addStrikes_22 : decode cX4_addStrikes 22 = .ok (.ifCond .eq 13, 3) := by decide +kernel
theorem dX4_addStrikes_25 : decode cX4_addStrikes 25 = .ok (.aload_n 0, 1) := by decide +kernel
theorem dX4_addStrikes_26 : decode cX4_addStrikes 26 = .ok (.getfield 60, 3) := by decide +kernel
theorem dX4_addStrikes_29 : decode cX4_addStrikes 29 = .ok (.iload_n 2, 1) := by decide +kernel
theorem dX4_addStrikes_30 : decode cX4_addStrikes 30 = .ok (.dup2, 1) := by decide +kernel
theorem dX4_addStrikes_31 : decode cX4_addStrikes 31 = .ok (.iaload, 1) := by decide +kernel
theorem dX4_addStrikes_32 : decode cX4_addStrikes 32 = .ok (.iconst 1, 1) := by decide +kernel
theorem dX4_addStrikes_33 : decode cX4_addStrikes 33 = .ok (.iadd, 1) := by decide +kernel
theorem dX4_addStrikes_34 : decode cX4_addStrikes 34 = .ok (.iastore, 1) := by decide +kernel
theorem dX4_addStrikes_35 : decode cX4_addStrikes 35 = .ok (.iinc 2 1, 3) := by decide +kernel
theorem dX4_addStrikes_38 : decode cX4_addStrikes 38 = .ok (.goto (-36), 3) := by decide +kernel
theorem dX4_addStrikes_41 : decode cX4_addStrikes 41 = .ok (.return_, 1) := by decide +kernel
theorem dX4_fitsHeard_0 : decode cX4_fitsHeard 0 = .ok (.iconst 0, 1) := by decide +kernel
theorem dX4_fitsHeard_1 : decode cX4_fitsHeard 1 = .ok (.istore_n 1, 1) := by decide +kernel
theorem dX4_fitsHeard_2 : decode cX4_fitsHeard 2 = .ok (.iload_n 1, 1) := by decide +kernel
theorem dX4_fitsHeard_3 : decode cX4_fitsHeard 3 = .ok (.aload_n 0, 1) := by decide +kernel
theorem dX4_fitsHeard_4 : decode cX4_fitsHeard 4 = .ok (.getfield 88, 3) := by decide +kernel
theorem dX4_fitsHeard_7 : decode cX4_fitsHeard 7 = .ok (.if_icmp .ge 39, 3) := by decide +kernel
theorem dX4_fitsHeard_10 : decode cX4_fitsHeard 10 = .ok (.aload_n 0, 1) := by decide +kernel
theorem dX4_fitsHeard_11 : decode cX4_fitsHeard 11 = .ok (.getfield 35, 3) := by decide +kernel
theorem dX4_fitsHeard_14 : decode cX4_fitsHeard 14 = .ok (.aload_n 0, 1) := by decide +kernel
theorem dX4_fitsHeard_15 : decode cX4_fitsHeard 15 = .ok (.getfield 50, 3) := by decide +kernel
theorem dX4_fitsHeard_18 : decode cX4_fitsHeard 18 = .ok (.iload_n 1, 1) := by decide +kernel
theorem dX4_fitsHeard_19 : decode cX4_fitsHeard 19 = .ok (.iaload, 1) := by decide +kernel
theorem dX4_fitsHeard_20 : decode cX4_fitsHeard 20 = .ok (.aload_n 0, 1) := by decide +kernel
theorem dX4_fitsHeard_21 : decode cX4_fitsHeard 21 = .ok (.getfield 54, 3) := by decide +kernel
theorem dX4_fitsHeard_24 : decode cX4_fitsHeard 24 = .ok (.iload_n 1, 1) := by decide +kernel
theorem dX4_fitsHeard_25 : decode cX4_fitsHeard 25 = .ok (.iaload, 1) := by decide +kernel
theorem dX4_fitsHeard_26 : decode cX4_fitsHeard 26 = .ok (.invokevirtual 208, 3) := by decide +kernel
theorem dX4_fitsHeard_29 : decode cX4_fitsHeard 29 = .ok (.aload_n 0, 1) := by decide +kernel
theorem dX4_fitsHeard_30 : decode cX4_fitsHeard 30 = .ok (.getfield 57, 3) := by decide +kernel
theorem dX4_fitsHeard_33 : decode cX4_fitsHeard 33 = .ok (.iload_n 1, 1) := by decide +kernel
theorem dX4_fitsHeard_34 : decode cX4_fitsHeard 34 = .ok (.baload, 1) := by decide +kernel
theorem dX4_fitsHeard_35 : decode cX4_fitsHeard 35 = .ok (.if_icmp .eq 5, 3) := by decide +kernel
theorem dX4_fitsHeard_38 : decode cX4_fitsHeard 38 = .ok (.iconst 0, 1) := by decide +kernel
theorem dX4_fitsHeard_39 : decode cX4_fitsHeard 39 = .ok (.ireturn, 1) := by decide +kernel
theorem dX4_fitsHeard_40 : decode cX4_fitsHeard 40 = .ok (.iinc 1 1, 3) := by decide +kernel
theorem dX4_fitsHeard_43 : decode cX4_fitsHeard 43 = .ok (.goto (-41), 3) := by decide +kernel
theorem dX4_fitsHeard_46 : decode cX4_fitsHeard 46 = .ok (.iconst 1, 1) := by decide +kernel
theorem dX4_fitsHeard_47 : decode cX4_fitsHeard 47 = .ok (.ireturn, 1) := by decide +kernel
theorem dX4_rate_0 : decode cX4_rate 0 = .ok (.aload_n 0, 1) := by decide +kernel
theorem dX4_rate_1 : decode cX4_rate 1 = .ok (.getfield 19, 3) := by decide +kernel
theorem dX4_rate_4 : decode cX4_rate 4 = .ok (.iload_n 2, 1) := by decide +kernel
theorem dX4_rate_5 : decode cX4_rate 5 = .ok (.invokevirtual 97, 3) := by decide +kernel
theorem dX4_rate_8 : decode cX4_rate 8 = .ok (.ifCond .ne 6, 3) := by decide +kernel
theorem dX4_rate_11 : decode cX4_rate 11 = .ok (.ldc 233, 2) := by decide +kernel
theorem dX4_rate_13 : decode cX4_rate 13 = .ok (.ireturn, 1) := by decide +kernel
theorem dX4_rate_14 : decode cX4_rate 14 = .ok (.iload_n 1, 1) := by decide +kernel
theorem dX4_rate_15 : decode cX4_rate 15 = .ok (.tableswitch 73 0 5 #[37, 43, 49, 55, 61, 67], 37) := by decide +kernel
theorem dX4_rate_52 : decode cX4_rate 52 = .ok (.aload_n 0, 1) := by decide +kernel
theorem dX4_rate_53 : decode cX4_rate 53 = .ok (.iload_n 2, 1) := by decide +kernel
theorem dX4_rate_54 : decode cX4_rate 54 = .ok (.invokevirtual 234, 3) := by decide +kernel
theorem dX4_rate_57 : decode cX4_rate 57 = .ok (.ireturn, 1) := by decide +kernel
theorem dX4_rate_58 : decode cX4_rate 58 = .ok (.aload_n 0, 1) := by decide +kernel
theorem dX4_rate_59 : decode cX4_rate 59 = .ok (.iload_n 2, 1) := by decide +kernel
theorem dX4_rate_60 : decode cX4_rate 60 = .ok (.invokevirtual 237, 3) := by decide +kernel
theorem dX4_rate_63 : decode cX4_rate 63 = .ok (.ireturn, 1) := by decide +kernel
theorem dX4_rate_64 : decode cX4_rate 64 = .ok (.aload_n 0, 1) := by decide +kernel
theorem dX4_rate_65 : decode cX4_rate 65 = .ok (.iload_n 2, 1) := by decide +kernel
theorem dX4_rate_66 : decode cX4_rate 66 = .ok (.invokevirtual 240, 3) := by decide +kernel
theorem dX4_rate_69 : decode cX4_rate 69 = .ok (.ireturn, 1) := by decide +kernel
theorem dX4_rate_70 : decode cX4_rate 70 = .ok (.aload_n 0, 1) := by decide +kernel
theorem dX4_rate_71 : decode cX4_rate 71 = .ok (.iload_n 2, 1) := by decide +kernel
theorem dX4_rate_72 : decode cX4_rate 72 = .ok (.invokevirtual 243, 3) := by decide +kernel
theorem dX4_rate_75 : decode cX4_rate 75 = .ok (.ireturn, 1) := by decide +kernel
theorem dX4_rate_76 : decode cX4_rate 76 = .ok (.aload_n 0, 1) := by decide +kernel
theorem dX4_rate_77 : decode cX4_rate 77 = .ok (.iload_n 2, 1) := by decide +kernel
theorem dX4_rate_78 : decode cX4_rate 78 = .ok (.invokevirtual 246, 3) := by decide +kernel
theorem dX4_rate_81 : decode cX4_rate 81 = .ok (.ireturn, 1) := by decide +kernel
theorem dX4_rate_82 : decode cX4_rate 82 = .ok (.aload_n 0, 1) := by decide +kernel
theorem dX4_rate_83 : decode cX4_rate 83 = .ok (.iload_n 2, 1) := by decide +kernel
theorem dX4_rate_84 : decode cX4_rate 84 = .ok (.invokevirtual 249, 3) := by decide +kernel
theorem dX4_rate_87 : decode cX4_rate 87 = .ok (.ireturn, 1) := by decide +kernel
theorem dX4_rate_88 : decode cX4_rate 88 = .ok (.ldc 233, 2) := by decide +kernel
theorem dX4_rate_90 : decode cX4_rate 90 = .ok (.ireturn, 1) := by decide +kernel
theorem dX4_rateChime_0 : decode cX4_rateChime 0 = .ok (.aload_n 0, 1) := by decide +kernel
theorem dX4_rateChime_1 : decode cX4_rateChime 1 = .ok (.dup, 1) := by decide +kernel
theorem dX4_rateChime_2 : decode cX4_rateChime 2 = .ok (.getfield 252, 3) := by decide +kernel
theorem dX4_rateChime_5 : decode cX4_rateChime 5 = .ok (.lconst 1, 1) := by decide +kernel
theorem dX4_rateChime_6 : decode cX4_rateChime 6 = .ok (.ladd, 1) := by decide +kernel
theorem dX4_rateChime_7 : decode cX4_rateChime 7 = .ok (.putfield 252, 3) := by decide +kernel
theorem dX4_rateChime_10 : decode cX4_rateChime 10 = .ok (.aload_n 0, 1) := by decide +kernel
theorem dX4_rateChime_11 : decode cX4_rateChime 11 = .ok (.getfield 19, 3) := by decide +kernel
theorem dX4_rateChime_14 : decode cX4_rateChime 14 = .ok (.getfield 100, 3) := by decide +kernel
theorem dX4_rateChime_17 : decode cX4_rateChime 17 = .ok (.iload_n 1, 1) := by decide +kernel
theorem dX4_rateChime_18 : decode cX4_rateChime 18 = .ok (.iaload, 1) := by decide +kernel
theorem dX4_rateChime_19 : decode cX4_rateChime 19 = .ok (.ireturn, 1) := by decide +kernel
theorem dX4_rateGlass_0 : decode cX4_rateGlass 0 = .ok (.aload_n 0, 1) := by decide +kernel
theorem dX4_rateGlass_1 : decode cX4_rateGlass 1 = .ok (.dup, 1) := by decide +kernel
theorem dX4_rateGlass_2 : decode cX4_rateGlass 2 = .ok (.getfield 252, 3) := by decide +kernel
theorem dX4_rateGlass_5 : decode cX4_rateGlass 5 = .ok (.ldc2_w 256, 3) := by decide +kernel
theorem dX4_rateGlass_8 : decode cX4_rateGlass 8 = .ok (.ladd, 1) := by decide +kernel
theorem dX4_rateGlass_9 : decode cX4_rateGlass 9 = .ok (.putfield 252, 3) := by decide +kernel
theorem dX4_rateGlass_12 : decode cX4_rateGlass 12 = .ok (.aload_n 0, 1) := by decide +kernel
theorem dX4_rateGlass_13 : decode cX4_rateGlass 13 = .ok (.iload_n 1, 1) := by decide +kernel
theorem dX4_rateGlass_14 : decode cX4_rateGlass 14 = .ok (.invokevirtual 234, 3) := by decide +kernel
theorem dX4_rateGlass_17 : decode cX4_rateGlass 17 = .ok (.aload_n 0, 1) := by decide +kernel
theorem dX4_rateGlass_18 : decode cX4_rateGlass 18 = .ok (.getfield 28, 3) := by decide +kernel
theorem dX4_rateGlass_21 : decode cX4_rateGlass 21 = .ok (.getfield 112, 3) := by decide +kernel
theorem dX4_rateGlass_24 : decode cX4_rateGlass 24 = .ok (.iload_n 1, 1) := by decide +kernel
theorem dX4_rateGlass_25 : decode cX4_rateGlass 25 = .ok (.iaload, 1) := by decide +kernel
theorem dX4_rateGlass_26 : decode cX4_rateGlass 26 = .ok (.iadd, 1) := by decide +kernel
theorem dX4_rateGlass_27 : decode cX4_rateGlass 27 = .ok (.ireturn, 1) := by decide +kernel
theorem dX4_rateShell_0 : decode cX4_rateShell 0 = .ok (.aload_n 0, 1) := by decide +kernel
theorem dX4_rateShell_1 : decode cX4_rateShell 1 = .ok (.dup, 1) := by decide +kernel
theorem dX4_rateShell_2 : decode cX4_rateShell 2 = .ok (.getfield 252, 3) := by decide +kernel
theorem dX4_rateShell_5 : decode cX4_rateShell 5 = .ok (.ldc2_w 258, 3) := by decide +kernel
theorem dX4_rateShell_8 : decode cX4_rateShell 8 = .ok (.ladd, 1) := by decide +kernel
theorem dX4_rateShell_9 : decode cX4_rateShell 9 = .ok (.putfield 252, 3) := by decide +kernel
theorem dX4_rateShell_12 : decode cX4_rateShell 12 = .ok (.aload_n 0, 1) := by decide +kernel
theorem dX4_rateShell_13 : decode cX4_rateShell 13 = .ok (.iload_n 1, 1) := by decide +kernel
theorem dX4_rateShell_14 : decode cX4_rateShell 14 = .ok (.invokevirtual 234, 3) := by decide +kernel
theorem dX4_rateShell_17 : decode cX4_rateShell 17 = .ok (.aload_n 0, 1) := by decide +kernel
theorem dX4_rateShell_18 : decode cX4_rateShell 18 = .ok (.getfield 28, 3) := by decide +kernel
theorem dX4_rateShell_21 : decode cX4_rateShell 21 = .ok (.getfield 128, 3) := by decide +kernel
theorem dX4_rateShell_24 : decode cX4_rateShell 24 = .ok (.isub, 1) := by decide +kernel
theorem dX4_rateShell_25 : decode cX4_rateShell 25 = .ok (.ireturn, 1) := by decide +kernel
theorem dX4_rateBell_0 : decode cX4_rateBell 0 = .ok (.aload_n 0, 1) := by decide +kernel
theorem dX4_rateBell_1 : decode cX4_rateBell 1 = .ok (.dup, 1) := by decide +kernel
theorem dX4_rateBell_2 : decode cX4_rateBell 2 = .ok (.getfield 252, 3) := by decide +kernel
theorem dX4_rateBell_5 : decode cX4_rateBell 5 = .ok (.ldc2_w 260, 3) := by decide +kernel
theorem dX4_rateBell_8 : decode cX4_rateBell 8 = .ok (.ladd, 1) := by decide +kernel
theorem dX4_rateBell_9 : decode cX4_rateBell 9 = .ok (.putfield 252, 3) := by decide +kernel
theorem dX4_rateBell_12 : decode cX4_rateBell 12 = .ok (.iconst 2, 1) := by decide +kernel
theorem dX4_rateBell_13 : decode cX4_rateBell 13 = .ok (.aload_n 0, 1) := by decide +kernel
theorem dX4_rateBell_14 : decode cX4_rateBell 14 = .ok (.iload_n 1, 1) := by decide +kernel
theorem dX4_rateBell_15 : decode cX4_rateBell 15 = .ok (.invokevirtual 237, 3) := by decide +kernel
theorem dX4_rateBell_18 : decode cX4_rateBell 18 = .ok (.imul, 1) := by decide +kernel
theorem dX4_rateBell_19 : decode cX4_rateBell 19 = .ok (.ireturn, 1) := by decide +kernel
theorem dX4_rateBone_0 : decode cX4_rateBone 0 = .ok (.aload_n 0, 1) := by decide +kernel
theorem dX4_rateBone_1 : decode cX4_rateBone 1 = .ok (.dup, 1) := by decide +kernel
theorem dX4_rateBone_2 : decode cX4_rateBone 2 = .ok (.getfield 252, 3) := by decide +kernel
theorem dX4_rateBone_5 : decode cX4_rateBone 5 = .ok (.ldc2_w 262, 3) := by decide +kernel
theorem dX4_rateBone_8 : decode cX4_rateBone 8 = .ok (.ladd, 1) := by decide +kernel
theorem dX4_rateBone_9 : decode cX4_rateBone 9 = .ok (.putfield 252, 3) := by decide +kernel
theorem dX4_rateBone_12 : decode cX4_rateBone 12 = .ok (.aload_n 0, 1) := by decide +kernel
theorem dX4_rateBone_13 : decode cX4_rateBone 13 = .ok (.iload_n 1, 1) := by decide +kernel
theorem dX4_rateBone_14 : decode cX4_rateBone 14 = .ok (.invokevirtual 240, 3) := by decide +kernel
theorem dX4_rateBone_17 : decode cX4_rateBone 17 = .ok (.iload_n 1, 1) := by decide +kernel
theorem dX4_rateBone_18 : decode cX4_rateBone 18 = .ok (.iadd, 1) := by decide +kernel
theorem dX4_rateBone_19 : decode cX4_rateBone 19 = .ok (.ireturn, 1) := by decide +kernel
theorem dX4_rateBrass_0 : decode cX4_rateBrass 0 = .ok (.aload_n 0, 1) := by decide +kernel
theorem dX4_rateBrass_1 : decode cX4_rateBrass 1 = .ok (.dup, 1) := by decide +kernel
theorem dX4_rateBrass_2 : decode cX4_rateBrass 2 = .ok (.getfield 252, 3) := by decide +kernel
theorem dX4_rateBrass_5 : decode cX4_rateBrass 5 = .ok (.ldc2_w 264, 3) := by decide +kernel
theorem dX4_rateBrass_8 : decode cX4_rateBrass 8 = .ok (.ladd, 1) := by decide +kernel
theorem dX4_rateBrass_9 : decode cX4_rateBrass 9 = .ok (.putfield 252, 3) := by decide +kernel
theorem dX4_rateBrass_12 : decode cX4_rateBrass 12 = .ok (.aload_n 0, 1) := by decide +kernel
theorem dX4_rateBrass_13 : decode cX4_rateBrass 13 = .ok (.iload_n 1, 1) := by decide +kernel
theorem dX4_rateBrass_14 : decode cX4_rateBrass 14 = .ok (.invokevirtual 234, 3) := by decide +kernel
theorem dX4_rateBrass_17 : decode cX4_rateBrass 17 = .ok (.aload_n 0, 1) := by decide +kernel
theorem dX4_rateBrass_18 : decode cX4_rateBrass 18 = .ok (.getfield 28, 3) := by decide +kernel
theorem dX4_rateBrass_21 : decode cX4_rateBrass 21 = .ok (.getfield 122, 3) := by decide +kernel
theorem dX4_rateBrass_24 : decode cX4_rateBrass 24 = .ok (.iadd, 1) := by decide +kernel
theorem dX4_rateBrass_25 : decode cX4_rateBrass 25 = .ok (.ireturn, 1) := by decide +kernel
theorem dX4_keep_0 : decode cX4_keep 0 = .ok (.iload_n 1, 1) := by decide +kernel
theorem dX4_keep_1 : decode cX4_keep 1 = .ok (.iconst 0, 1) := by decide +kernel
theorem dX4_keep_2 : decode cX4_keep 2 = .ok (.iconst 1, 1) := by decide +kernel
theorem dX4_keep_3 : decode cX4_keep 3 = .ok (.invokestatic 63, 3) := by decide +kernel
theorem dX4_keep_6 : decode cX4_keep 6 = .ok (.ifCond .ne 5, 3) := by decide +kernel
theorem dX4_keep_9 : decode cX4_keep 9 = .ok (.iconst (-1), 1) := by decide +kernel
theorem dX4_keep_10 : decode cX4_keep 10 = .ok (.ireturn, 1) := by decide +kernel
theorem dX4_keep_11 : decode cX4_keep 11 = .ok (.aload_n 0, 1) := by decide +kernel
theorem dX4_keep_12 : decode cX4_keep 12 = .ok (.getfield 43, 3) := by decide +kernel
theorem dX4_keep_15 : decode cX4_keep 15 = .ok (.iload_n 1, 1) := by decide +kernel
theorem dX4_keep_16 : decode cX4_keep 16 = .ok (.aaload, 1) := by decide +kernel
theorem dX4_keep_17 : decode cX4_keep 17 = .ok (.aload_n 0, 1) := by decide +kernel
theorem dX4_keep_18 : decode cX4_keep 18 = .ok (.getfield 28, 3) := by decide +kernel
theorem dX4_keep_21 : decode cX4_keep 21 = .ok (.invokevirtual 164, 3) := by decide +kernel
theorem dX4_keep_24 : decode cX4_keep 24 = .ok (.aload_n 0, 1) := by decide +kernel
theorem dX4_keep_25 : decode cX4_keep 25 = .ok (.getfield 46, 3) := by decide +kernel
theorem dX4_keep_28 : decode cX4_keep 28 = .ok (.iload_n 1, 1) := by decide +kernel
theorem dX4_keep_29 : decode cX4_keep 29 = .ok (.iconst 1, 1) := by decide +kernel
theorem dX4_keep_30 : decode cX4_keep 30 = .ok (.bastore, 1) := by decide +kernel
theorem dX4_keep_31 : decode cX4_keep 31 = .ok (.aload_n 0, 1) := by decide +kernel
theorem dX4_keep_32 : decode cX4_keep 32 = .ok (.getfield 28, 3) := by decide +kernel
theorem dX4_keep_35 : decode cX4_keep 35 = .ok (.getfield 122, 3) := by decide +kernel
theorem dX4_keep_38 : decode cX4_keep 38 = .ok (.ireturn, 1) := by decide +kernel
theorem dX4_back_0 : decode cX4_back 0 = .ok (.iload_n 1, 1) := by decide +kernel
theorem dX4_back_1 : decode cX4_back 1 = .ok (.iconst 0, 1) := by decide +kernel
theorem dX4_back_2 : decode cX4_back 2 = .ok (.iconst 1, 1) := by decide +kernel
theorem dX4_back_3 : decode cX4_back 3 = .ok (.invokestatic 63, 3) := by decide +kernel
theorem dX4_back_6 : decode cX4_back 6 = .ok (.ifCond .ne 5, 3) := by decide +kernel
theorem dX4_back_9 : decode cX4_back 9 = .ok (.iconst (-1), 1) := by decide +kernel
theorem dX4_back_10 : decode cX4_back 10 = .ok (.ireturn, 1) := by decide +kernel
theorem dX4_back_11 : decode cX4_back 11 = .ok (.aload_n 0, 1) := by decide +kernel
theorem dX4_back_12 : decode cX4_back 12 = .ok (.getfield 46, 3) := by decide +kernel
theorem dX4_back_15 : decode cX4_back 15 = .ok (.iload_n 1, 1) := by decide +kernel
theorem dX4_back_16 : decode cX4_back 16 = .ok (.baload, 1) := by decide +kernel
theorem dX4_back_17 : decode cX4_back 17 = .ok (.ifCond .ne 6, 3) := by decide +kernel
theorem dX4_back_20 : decode cX4_back 20 = .ok (.bipush (-2), 2) := by decide +kernel
theorem dX4_back_22 : decode cX4_back 22 = .ok (.ireturn, 1) := by decide +kernel
theorem dX4_back_23 : decode cX4_back 23 = .ok (.aload_n 0, 1) := by decide +kernel
theorem dX4_back_24 : decode cX4_back 24 = .ok (.getfield 28, 3) := by decide +kernel
theorem dX4_back_27 : decode cX4_back 27 = .ok (.aload_n 0, 1) := by decide +kernel
theorem dX4_back_28 : decode cX4_back 28 = .ok (.getfield 43, 3) := by decide +kernel
theorem dX4_back_31 : decode cX4_back 31 = .ok (.iload_n 1, 1) := by decide +kernel
theorem dX4_back_32 : decode cX4_back 32 = .ok (.aaload, 1) := by decide +kernel
theorem dX4_back_33 : decode cX4_back 33 = .ok (.invokevirtual 164, 3) := by decide +kernel
theorem dX4_back_36 : decode cX4_back 36 = .ok (.aload_n 0, 1) := by decide +kernel
theorem dX4_back_37 : decode cX4_back 37 = .ok (.iconst 0, 1) := by decide +kernel
theorem dX4_back_38 : decode cX4_back 38 = .ok (.putfield 91, 3) := by decide +kernel
theorem dX4_back_41 : decode cX4_back 41 = .ok (.aload_n 0, 1) := by decide +kernel
theorem dX4_back_42 : decode cX4_back 42 = .ok (.getfield 28, 3) := by decide +kernel
theorem dX4_back_45 : decode cX4_back 45 = .ok (.getfield 122, 3) := by decide +kernel
theorem dX4_back_48 : decode cX4_back 48 = .ok (.ireturn, 1) := by decide +kernel
theorem dX4_count_0 : decode cX4_count 0 = .ok (.iload_n 1, 1) := by decide +kernel
theorem dX4_count_1 : decode cX4_count 1 = .ok (.tableswitch 60 0 3 #[31, 39, 47, 52], 31) := by decide +kernel
theorem dX4_count_32 : decode cX4_count 32 = .ok (.aload_n 0, 1) := by decide +kernel
theorem dX4_count_33 : decode cX4_count 33 = .ok (.getfield 19, 3) := by decide +kernel
theorem dX4_count_36 : decode cX4_count 36 = .ok (.getfield 151, 3) := by decide +kernel
theorem dX4_count_39 : decode cX4_count 39 = .ok (.ireturn, 1) := by decide +kernel
theorem dX4_count_40 : decode cX4_count 40 = .ok (.aload_n 0, 1) := by decide +kernel
theorem dX4_count_41 : decode cX4_count 41 = .ok (.getfield 19, 3) := by decide +kernel
theorem dX4_count_44 : decode cX4_count 44 = .ok (.getfield 266, 3) := by decide +kernel
theorem dX4_count_47 : decode cX4_count 47 = .ok (.ireturn, 1) := by decide +kernel
theorem dX4_count_48 : decode cX4_count 48 = .ok (.aload_n 0, 1) := by decide +kernel
theorem dX4_count_49 : decode cX4_count 49 = .ok (.getfield 88, 3) := by decide +kernel
theorem dX4_count_52 : decode cX4_count 52 = .ok (.ireturn, 1) := by decide +kernel
theorem dX4_count_53 : decode cX4_count 53 = .ok (.aload_n 0, 1) := by decide +kernel
theorem dX4_count_54 : decode cX4_count 54 = .ok (.getfield 10, 3) := by decide +kernel
theorem dX4_count_57 : decode cX4_count 57 = .ok (.getfield 71, 3) := by decide +kernel
theorem dX4_count_60 : decode cX4_count 60 = .ok (.ireturn, 1) := by decide +kernel
theorem dX4_count_61 : decode cX4_count 61 = .ok (.iconst (-1), 1) := by decide +kernel
theorem dX4_count_62 : decode cX4_count 62 = .ok (.ireturn, 1) := by decide +kernel
theorem dX4_trace_0 : decode cX4_trace 0 = .ok (.aload_n 0, 1) := by decide +kernel
theorem dX4_trace_1 : decode cX4_trace 1 = .ok (.getfield 252, 3) := by decide +kernel
theorem dX4_trace_4 : decode cX4_trace 4 = .ok (.lreturn, 1) := by decide +kernel
theorem dX4_isWithin_0 : decode cX4_isWithin 0 = .ok (.iload_n 0, 1) := by decide +kernel
theorem dX4_isWithin_1 : decode cX4_isWithin 1 = .ok (.iload_n 1, 1) := by decide +kernel
theorem dX4_isWithin_2 : decode cX4_isWithin 2 = .ok (.if_icmp .lt 12, 3) := by decide +kernel
theorem dX4_isWithin_5 : decode cX4_isWithin 5 = .ok (.iload_n 0, 1) := by decide +kernel
theorem dX4_isWithin_6 : decode cX4_isWithin 6 = .ok (.iload_n 2, 1) := by decide +kernel
theorem dX4_isWithin_7 : decode cX4_isWithin 7 = .ok (.if_icmp .gt 7, 3) := by decide +kernel
theorem dX4_isWithin_10 : decode cX4_isWithin 10 = .ok (.iconst 1, 1) := by decide +kernel
theorem dX4_isWithin_11 : decode cX4_isWithin 11 = .ok (.goto 4, 3) := by decide +kernel
theorem dX4_isWithin_14 : decode cX4_isWithin 14 = .ok (.iconst 0, 1) := by decide +kernel
theorem dX4_isWithin_15 : decode cX4_isWithin 15 = .ok (.ireturn, 1) := by decide +kernel
theorem dX4_isSide_0 : decode cX4_isSide 0 = .ok (.aload_n 0, 1) := by decide +kernel
theorem dX4_isSide_1 : decode cX4_isSide 1 = .ok (.getfield 19, 3) := by decide +kernel
theorem dX4_isSide_4 : decode cX4_isSide 4 = .ok (.iload_n 1, 1) := by decide +kernel
theorem dX4_isSide_5 : decode cX4_isSide 5 = .ok (.invokevirtual 97, 3) := by decide +kernel
theorem dX4_isSide_8 : decode cX4_isSide 8 = .ok (.ireturn, 1) := by decide +kernel
theorem dX4_isStrength_0 : decode cX4_isStrength 0 = .ok (.iload_n 0, 1) := by decide +kernel
theorem dX4_isStrength_1 : decode cX4_isStrength 1 = .ok (.iconst 1, 1) := by decide +kernel
theorem dX4_isStrength_2 : decode cX4_isStrength 2 = .ok (.bipush 9, 2) := by decide +kernel
theorem dX4_isStrength_4 : decode cX4_isStrength 4 = .ok (.invokestatic 63, 3) := by decide +kernel
theorem dX4_isStrength_7 : decode cX4_isStrength 7 = .ok (.ireturn, 1) := by decide +kernel
theorem dX4_areCalms_0 : decode cX4_areCalms 0 = .ok (.iload_n 0, 1) := by decide +kernel
theorem dX4_areCalms_1 : decode cX4_areCalms 1 = .ok (.iconst 0, 1) := by decide +kernel
theorem dX4_areCalms_2 : decode cX4_areCalms 2 = .ok (.bipush 20, 2) := by decide +kernel
theorem dX4_areCalms_4 : decode cX4_areCalms 4 = .ok (.invokestatic 63, 3) := by decide +kernel
theorem dX4_areCalms_7 : decode cX4_areCalms 7 = .ok (.ireturn, 1) := by decide +kernel
theorem dX4_gustNumber_0 : decode cX4_gustNumber 0 = .ok (.bipush 10, 2) := by decide +kernel
theorem dX4_gustNumber_2 : decode cX4_gustNumber 2 = .ok (.iload_n 0, 1) := by decide +kernel
theorem dX4_gustNumber_3 : decode cX4_gustNumber 3 = .ok (.imul, 1) := by decide +kernel
theorem dX4_gustNumber_4 : decode cX4_gustNumber 4 = .ok (.iload_n 1, 1) := by decide +kernel
theorem dX4_gustNumber_5 : decode cX4_gustNumber 5 = .ok (.iadd, 1) := by decide +kernel
theorem dX4_gustNumber_6 : decode cX4_gustNumber 6 = .ok (.ireturn, 1) := by decide +kernel
