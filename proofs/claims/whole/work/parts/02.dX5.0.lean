theorem dX5_init_0 : decode cX5_init 0 = .ok (.aload_n 0, 1) := by decide +kernel
theorem dX5_init_1 : decode cX5_init 1 = .ok (.invokespecial 1, 3) := by decide +kernel
theorem dX5_init_4 : decode cX5_init 4 = .ok (.aload_n 0, 1) := by decide +kernel
theorem dX5_init_5 : decode cX5_init 5 = .ok (.bipush 120, 2) := by decide +kernel
theorem dX5_init_7 : decode cX5_init 7 = .ok (.newarray .int, 2) := by decide +kernel
theorem dX5_init_9 : decode cX5_init 9 = .ok (.putfield 7, 3) := by decide +kernel
theorem dX5_init_12 : decode cX5_init 12 = .ok (.aload_n 0, 1) := by decide +kernel
theorem dX5_init_13 : decode cX5_init 13 = .ok (.bipush 16, 2) := by decide +kernel
theorem dX5_init_15 : decode cX5_init 15 = .ok (.newarray .int, 2) := by decide +kernel
theorem dX5_init_17 : decode cX5_init 17 = .ok (.putfield 13, 3) := by decide +kernel
theorem dX5_init_20 : decode cX5_init 20 = .ok (.aload_n 0, 1) := by decide +kernel
theorem dX5_init_21 : decode cX5_init 21 = .ok (.bipush 16, 2) := by decide +kernel
theorem dX5_init_23 : decode cX5_init 23 = .ok (.newarray .int, 2) := by decide +kernel
theorem dX5_init_25 : decode cX5_init 25 = .ok (.putfield 16, 3) := by decide +kernel
theorem dX5_init_28 : decode cX5_init 28 = .ok (.aload_n 0, 1) := by decide +kernel
theorem dX5_init_29 : decode cX5_init 29 = .ok (.bipush 16, 2) := by decide +kernel
theorem dX5_init_31 : decode cX5_init 31 = .ok (.newarray .int, 2) := by decide +kernel
theorem dX5_init_33 : decode cX5_init 33 = .ok (.putfield 19, 3) := by decide +kernel
theorem dX5_init_36 : decode cX5_init 36 = .ok (.aload_n 0, 1) := by decide +kernel
theorem dX5_init_37 : decode cX5_init 37 = .ok (.bipush 19, 2) := by decide +kernel
theorem dX5_init_39 : decode cX5_init 39 = .ok (.newarray .int, 2) := by decide +kernel
theorem dX5_init_41 : decode cX5_init 41 = .ok (.putfield 22, 3) := by decide +kernel
theorem dX5_init_44 : decode cX5_init 44 = .ok (.aload_n 0, 1) := by decide +kernel
theorem dX5_init_45 : decode cX5_init 45 = .ok (.bipush 19, 2) := by decide +kernel
theorem dX5_init_47 : decode cX5_init 47 = .ok (.newarray .int, 2) := by decide +kernel
theorem dX5_init_49 : decode cX5_init 49 = .ok (.putfield 25, 3) := by decide +kernel
theorem dX5_init_52 : decode cX5_init 52 = .ok (.aload_n 0, 1) := by decide +kernel
theorem dX5_init_53 : decode cX5_init 53 = .ok (.bipush 38, 2) := by decide +kernel
theorem dX5_init_55 : decode cX5_init 55 = .ok (.newarray .int, 2) := by decide +kernel
theorem dX5_init_57 : decode cX5_init 57 = .ok (.putfield 28, 3) := by decide +kernel
theorem dX5_init_60 : decode cX5_init 60 = .ok (.aload_n 0, 1) := by decide +kernel
theorem dX5_init_61 : decode cX5_init 61 = .ok (.iconst 2, 1) := by decide +kernel
theorem dX5_init_62 : decode cX5_init 62 = .ok (.newarray .boolean, 2) := by decide +kernel
theorem dX5_init_64 : decode cX5_init 64 = .ok (.putfield 31, 3) := by decide +kernel
theorem dX5_init_67 : decode cX5_init 67 = .ok (.aload_n 0, 1) := by decide +kernel
theorem dX5_init_68 : decode cX5_init 68 = .ok (.sipush 190, 3) := by decide +kernel
theorem dX5_init_71 : decode cX5_init 71 = .ok (.newarray .int, 2) := by decide +kernel
theorem dX5_init_73 : decode cX5_init 73 = .ok (.putfield 35, 3) := by decide +kernel
theorem dX5_init_76 : decode cX5_init 76 = .ok (.aload_n 0, 1) := by decide +kernel
theorem dX5_init_77 : decode cX5_init 77 = .ok (.bipush 6, 2) := by decide +kernel
theorem dX5_init_79 : decode cX5_init 79 = .ok (.newarray .int, 2) := by decide +kernel
theorem dX5_init_81 : decode cX5_init 81 = .ok (.putfield 38, 3) := by decide +kernel
theorem dX5_init_84 : decode cX5_init 84 = .ok (.aload_n 0, 1) := by decide +kernel
theorem dX5_init_85 : decode cX5_init 85 = .ok (.bipush 6, 2) := by decide +kernel
theorem dX5_init_87 : decode cX5_init 87 = .ok (.newarray .int, 2) := by decide +kernel
theorem dX5_init_89 : decode cX5_init 89 = .ok (.putfield 41, 3) := by decide +kernel
theorem dX5_init_92 : decode cX5_init 92 = .ok (.aload_n 0, 1) := by decide +kernel
theorem dX5_init_93 : decode cX5_init 93 = .ok (.bipush 6, 2) := by decide +kernel
theorem dX5_init_95 : decode cX5_init 95 = .ok (.newarray .int, 2) := by decide +kernel
theorem dX5_init_97 : decode cX5_init 97 = .ok (.putfield 44, 3) := by decide +kernel
theorem dX5_init_100 : decode cX5_init 100 = .ok (.aload_n 0, 1) := by decide +kernel
theorem dX5_init_101 : decode cX5_init 101 = .ok (.bipush 8, 2) := by decide +kernel
theorem dX5_init_103 : decode cX5_init 103 = .ok (.newarray .int, 2) := by decide +kernel
theorem dX5_init_105 : decode cX5_init 105 = .ok (.putfield 47, 3) := by decide +kernel
theorem dX5_init_108 : decode cX5_init 108 = .ok (.aload_n 0, 1) := by decide +kernel
theorem dX5_init_109 : decode cX5_init 109 = .ok (.iconst 1, 1) := by decide +kernel
theorem dX5_init_110 : decode cX5_init 110 = .ok (.putfield 50, 3) := by decide +kernel
theorem dX5_init_113 : decode cX5_init 113 = .ok (.return_, 1) := by decide +kernel
theorem dX5_in_0 : decode cX5_in 0 = .ok (.iload_n 0, 1) := by decide +kernel
theorem dX5_in_1 : decode cX5_in 1 = .ok (.iload_n 1, 1) := by decide +kernel
theorem dX5_in_2 : decode cX5_in 2 = .ok (.if_icmp .lt 12, 3) := by decide +kernel
theorem dX5_in_5 : decode cX5_in 5 = .ok (.iload_n 0, 1) := by decide +kernel
theorem dX5_in_6 : decode cX5_in 6 = .ok (.iload_n 2, 1) := by decide +kernel
theorem dX5_in_7 : decode cX5_in 7 = .ok (.if_icmp .gt 7, 3) := by decide +kernel
theorem dX5_in_10 : decode cX5_in 10 = .ok (.iconst 1, 1) := by decide +kernel
theorem dX5_in_11 : decode cX5_in 11 = .ok (.goto 4, 3) := by decide +kernel
theorem dX5_in_14 : decode cX5_in 14 = .ok (.iconst 0, 1) := by decide +kernel
theorem dX5_in_15 : decode cX5_in 15 = .ok (.ireturn, 1) := by decide +kernel
theorem dX5_has_0 : decode cX5_has 0 = .ok (.iload_n 0, 1) := by decide +kernel
theorem dX5_has_1 : decode cX5_has 1 = .ok (.iload_n 1, 1) := by decide +kernel
theorem dX5_has_2 : decode cX5_has 2 = .ok (.ishr, 1) := by decide +kernel
theorem dX5_has_3 : decode cX5_has 3 = .ok (.iconst 1, 1) := by decide +kernel
theorem dX5_has_4 : decode cX5_has 4 = .ok (.iand, 1) := by decide +kernel
theorem dX5_has_5 : decode cX5_has 5 = .ok (.iconst 1, 1) := by decide +kernel
theorem dX5_has_6 : decode cX5_has 6 = .ok (.if_icmp .ne 7, 3) := by decide +kernel
theorem dX5_has_9 : decode cX5_has 9 = .ok (.iconst 1, 1) := by decide +kernel
theorem dX5_has_10 : decode cX5_has 10 = .ok (.goto 4, 3) := by decide +kernel
theorem dX5_has_13 : decode cX5_has 13 = .ok (.iconst 0, 1) := by decide +kernel
theorem dX5_has_14 : decode cX5_has 14 = .ok (.ireturn, 1) := by decide +kernel
theorem dX5_ones_0 : decode cX5_ones 0 = .ok (.iconst 0, 1) := by decide +kernel
theorem dX5_ones_1 : decode cX5_ones 1 = .ok (.istore_n 1, 1) := by decide +kernel
theorem dX5_ones_2 : decode cX5_ones 2 = .ok (.iconst 0, 1) := by decide +kernel
theorem dX5_ones_3 : decode cX5_ones 3 = .ok (.istore_n 2, 1) := by decide +kernel
theorem dX5_ones_4 : decode cX5_ones 4 = .ok (.iload_n 2, 1) := by decide +kernel
theorem dX5_ones_5 : decode cX5_ones 5 = .ok (.bipush 8, 2) := by decide +kernel
theorem dX5_ones_7 : decode cX5_ones 7 = .ok (.if_icmp .ge 17, 3) := by decide +kernel
theorem dX5_ones_10 : decode cX5_ones 10 = .ok (.iload_n 1, 1) := by decide +kernel
theorem dX5_ones_11 : decode cX5_ones 11 = .ok (.iload_n 0, 1) := by decide +kernel
theorem dX5_ones_12 : decode cX5_ones 12 = .ok (.iload_n 2, 1) := by decide +kernel
theorem dX5_ones_13 : decode cX5_ones 13 = .ok (.ishr, 1) := by decide +kernel
theorem dX5_ones_14 : decode cX5_ones 14 = .ok (.iconst 1, 1) := by decide +kernel
theorem dX5_ones_15 : decode cX5_ones 15 = .ok (.iand, 1) := by decide +kernel
theorem dX5_ones_16 : decode cX5_ones 16 = .ok (.iadd, 1) := by decide +kernel
theorem dX5_ones_17 : decode cX5_ones 17 = .ok (.istore_n 1, 1) := by decide +kernel
theorem dX5_ones_18 : decode cX5_ones 18 = .ok (.iinc 2 1, 3) := by decide +kernel
theorem dX5_ones_21 : decode cX5_ones 21 = .ok (.goto (-17), 3) := by decide +kernel
theorem dX5_ones_24 : decode cX5_ones 24 = .ok (.iload_n 1, 1) := by decide +kernel
theorem dX5_ones_25 : decode cX5_ones 25 = .ok (.ireturn, 1) := by decide +kernel
theorem dX5_type_0 : decode cX5_type 0 = .ok (.aload_n 0, 1) := by decide +kernel
theorem dX5_type_1 : decode cX5_type 1 = .ok (.iconst 0, 1) := by decide +kernel
theorem dX5_type_2 : decode cX5_type 2 = .ok (.putfield 54, 3) := by decide +kernel
theorem dX5_type_5 : decode cX5_type 5 = .ok (.iload_n 1, 1) := by decide +kernel
theorem dX5_type_6 : decode cX5_type 6 = .ok (.iconst 0, 1) := by decide +kernel
theorem dX5_type_7 : decode cX5_type 7 = .ok (.sipush 255, 3) := by decide +kernel
theorem dX5_type_10 : decode cX5_type 10 = .ok (.invokestatic 57, 3) := by decide +kernel
theorem dX5_type_13 : decode cX5_type 13 = .ok (.ifCond .ne 5, 3) := by decide +kernel
theorem dX5_type_16 : decode cX5_type 16 = .ok (.iconst (-1), 1) := by decide +kernel
theorem dX5_type_17 : decode cX5_type 17 = .ok (.ireturn, 1) := by decide +kernel
theorem dX5_type_18 : decode cX5_type 18 = .ok (.aload_n 0, 1) := by decide +kernel
theorem dX5_type_19 : decode cX5_type 19 = .ok (.getfield 61, 3) := by decide +kernel
theorem dX5_type_22 : decode cX5_type 22 = .ok (.bipush 120, 2) := by decide +kernel
theorem dX5_type_24 : decode cX5_type 24 = .ok (.if_icmp .ne 6, 3) := by decide +kernel
theorem dX5_type_27 : decode cX5_type 27 = .ok (.bipush (-3), 2) := by decide +kernel
theorem dX5_type_29 : decode cX5_type 29 = .ok (.ireturn, 1) := by decide +kernel
theorem dX5_type_30 : decode cX5_type 30 = .ok (.aload_n 0, 1) := by decide +kernel
theorem dX5_type_31 : decode cX5_type 31 = .ok (.getfield 7, 3) := by decide +kernel
theorem dX5_type_34 : decode cX5_type 34 = .ok (.aload_n 0, 1) := by decide +kernel
theorem dX5_type_35 : decode cX5_type 35 = .ok (.getfield 61, 3) := by decide +kernel
theorem dX5_type_38 : decode cX5_type 38 = .ok (.iload_n 1, 1) := by decide +kernel
theorem dX5_type_39 : decode cX5_type 39 = .ok (.iastore, 1) := by decide +kernel
theorem dX5_type_40 : decode cX5_type 40 = .ok (.aload_n 0, 1) := by decide +kernel
theorem dX5_type_41 : decode cX5_type 41 = .ok (.dup, 1) := by decide +kernel
theorem dX5_type_42 : decode cX5_type 42 = .ok (.getfield 61, 3) := by decide +kernel
theorem dX5_type_45 : decode cX5_type 45 = .ok (.iconst 1, 1) := by decide +kernel
theorem dX5_type_46 : decode cX5_type 46 = .ok (.iadd, 1) := by decide +kernel
theorem dX5_type_47 : decode cX5_type 47 = .ok (.putfield 61, 3) := by decide +kernel
theorem dX5_type_50 : decode cX5_type 50 = .ok (.aload_n 0, 1) := by decide +kernel
theorem dX5_type_51 : decode cX5_type 51 = .ok (.getfield 61, 3) := by decide +kernel
theorem dX5_type_54 : decode cX5_type 54 = .ok (.ireturn, 1) := by decide +kernel
theorem dX5_clear_0 : decode cX5_clear 0 = .ok (.aload_n 0, 1) := by decide +kernel
theorem dX5_clear_1 : decode cX5_clear 1 = .ok (.iconst 0, 1) := by decide +kernel
theorem dX5_clear_2 : decode cX5_clear 2 = .ok (.putfield 54, 3) := by decide +kernel
theorem dX5_clear_5 : decode cX5_clear 5 = .ok (.aload_n 0, 1) := by decide +kernel
theorem dX5_clear_6 : decode cX5_clear 6 = .ok (.getfield 61, 3) := by decide +kernel
theorem dX5_clear_9 : decode cX5_clear 9 = .ok (.istore_n 1, 1) := by decide +kernel
theorem dX5_clear_10 : decode cX5_clear 10 = .ok (.aload_n 0, 1) := by decide +kernel
theorem dX5_clear_11 : decode cX5_clear 11 = .ok (.iconst 0, 1) := by decide +kernel
theorem dX5_clear_12 : decode cX5_clear 12 = .ok (.putfield 61, 3) := by decide +kernel
theorem dX5_clear_15 : decode cX5_clear 15 = .ok (.iload_n 1, 1) := by decide +kernel
theorem dX5_clear_16 : decode cX5_clear 16 = .ok (.ireturn, 1) := by decide +kernel
theorem dX5_letterAt_0 : decode cX5_letterAt 0 = .ok (.iload_n 1, 1) := by decide +kernel
theorem dX5_letterAt_1 : decode cX5_letterAt 1 = .ok (.aload_n 0, 1) := by decide +kernel
theorem dX5_letterAt_2 : decode cX5_letterAt 2 = .ok (.getfield 61, 3) := by decide +kernel
theorem dX5_letterAt_5 : decode cX5_letterAt 5 = .ok (.if_icmp .ge 12, 3) := by decide +kernel
theorem dX5_letterAt_8 : decode cX5_letterAt 8 = .ok (.aload_n 0, 1) := by decide +kernel
theorem dX5_letterAt_9 : decode cX5_letterAt 9 = .ok (.getfield 7, 3) := by decide +kernel
theorem dX5_letterAt_12 : decode cX5_letterAt 12 = .ok (.iload_n 1, 1) := by decide +kernel
theorem dX5_letterAt_13 : decode cX5_letterAt 13 = .ok (.iaload, 1) := by decide +kernel
theorem dX5_letterAt_14 : decode cX5_letterAt 14 = .ok (.goto 4, 3) := by decide +kernel
theorem dX5_letterAt_17 : decode cX5_letterAt 17 = .ok (.iconst (-1), 1) := by decide +kernel
theorem dX5_letterAt_18 : decode cX5_letterAt 18 = .ok (.ireturn, 1) := by decide +kernel
theorem dX5_advances_0 : decode cX5_advances 0 = .ok (.aload_n 0, 1) := by decide +kernel
theorem dX5_advances_1 : decode cX5_advances 1 = .ok (.aload_n 0, 1) := by decide +kernel
theorem dX5_advances_2 : decode cX5_advances 2 = .ok (.getfield 64, 3) := by decide +kernel
theorem dX5_advances_5 : decode cX5_advances 5 = .ok (.invokevirtual 67, 3) := by decide +kernel
theorem dX5_advances_8 : decode cX5_advances 8 = .ok (.bipush 32, 2) := by decide +kernel
theorem dX5_advances_10 : decode cX5_advances 10 = .ok (.if_icmp .ne 16, 3) := by decide +kernel
theorem dX5_advances_13 : decode cX5_advances 13 = .ok (.aload_n 0, 1) := by decide +kernel
theorem dX5_advances_14 : decode cX5_advances 14 = .ok (.dup, 1) := by decide +kernel
theorem dX5_advances_15 : decode cX5_advances 15 = .ok (.getfield 64, 3) := by decide +kernel
theorem dX5_advances_18 : decode cX5_advances 18 = .ok (.iconst 1, 1) := by decide +kernel
theorem dX5_advances_19 : decode cX5_advances 19 = .ok (.iadd, 1) := by decide +kernel
theorem dX5_advances_20 : decode cX5_advances 20 = .ok (.putfield 64, 3) := by decide +kernel
theorem dX5_advances_23 : decode cX5_advances 23 = .ok (.goto (-23), 3) := by decide +kernel
theorem dX5_advances_26 : decode cX5_advances 26 = .ok (.aload_n 0, 1) := by decide +kernel
theorem dX5_advances_27 : decode cX5_advances 27 = .ok (.aload_n 0, 1) := by decide +kernel
theorem dX5_advances_28 : decode cX5_advances 28 = .ok (.getfield 64, 3) := by decide +kernel
theorem dX5_advances_31 : decode cX5_advances 31 = .ok (.putfield 71, 3) := by decide +kernel
theorem dX5_advances_34 : decode cX5_advances 34 = .ok (.aload_n 0, 1) := by decide +kernel
theorem dX5_advances_35 : decode cX5_advances 35 = .ok (.aload_n 0, 1) := by decide +kernel
theorem dX5_advances_36 : decode cX5_advances 36 = .ok (.getfield 64, 3) := by decide +kernel
theorem dX5_advances_39 : decode cX5_advances 39 = .ok (.invokevirtual 67, 3) := by decide +kernel
theorem dX5_advances_42 : decode cX5_advances 42 = .ok (.istore_n 1, 1) := by decide +kernel
theorem dX5_advances_43 : decode cX5_advances 43 = .ok (.iload_n 1, 1) := by decide +kernel
theorem dX5_advances_44 : decode cX5_advances 44 = .ok (.ifCond .ge 11, 3) := by decide +kernel
theorem dX5_advances_47 : decode cX5_advances 47 = .ok (.aload_n 0, 1) := by decide +kernel
theorem dX5_advances_48 : decode cX5_advances 48 = .ok (.iconst 0, 1) := by decide +kernel
theorem dX5_advances_49 : decode cX5_advances 49 = .ok (.putfield 74, 3) := by decide +kernel
theorem dX5_advances_52 : decode cX5_advances 52 = .ok (.goto 175, 3) := by decide +kernel
theorem dX5_advances_55 : decode cX5_advances 55 = .ok (.iload_n 1, 1) := by decide +kernel
theorem dX5_advances_56 : decode cX5_advances 56 = .ok (.bipush 48, 2) := by decide +kernel
theorem dX5_advances_58 : decode cX5_advances 58 = .ok (.bipush 57, 2) := by decide +kernel
theorem dX5_advances_60 : decode cX5_advances 60 = .ok (.invokestatic 57, 3) := by decide +kernel
theorem dX5_advances_63 : decode cX5_advances 63 = .ok (.ifCond .eq 118, 3) := by decide +kernel
theorem dX5_advances_66 : decode cX5_advances 66 = .ok (.aload_n 0, 1) := by decide +kernel
theorem dX5_advances_67 : decode cX5_advances 67 = .ok (.iconst 0, 1) := by decide +kernel
theorem dX5_advances_68 : decode cX5_advances 68 = .ok (.putfield 77, 3) := by decide +kernel
theorem dX5_advances_71 : decode cX5_advances 71 = .ok (.aload_n 0, 1) := by decide +kernel
theorem dX5_advances_72 : decode cX5_advances 72 = .ok (.aload_n 0, 1) := by decide +kernel
theorem dX5_advances_73 : decode cX5_advances 73 = .ok (.getfield 64, 3) := by decide +kernel
theorem dX5_advances_76 : decode cX5_advances 76 = .ok (.invokevirtual 67, 3) := by decide +kernel
theorem dX5_advances_79 : decode cX5_advances 79 = .ok (.bipush 48, 2) := by decide +kernel
theorem dX5_advances_81 : decode cX5_advances 81 = .ok (.bipush 57, 2) := by decide +kernel
theorem dX5_advances_83 : decode cX5_advances 83 = .ok (.invokestatic 57, 3) := by decide +kernel
theorem dX5_advances_86 : decode cX5_advances 86 = .ok (.ifCond .eq 55, 3) := by decide +kernel
theorem dX5_advances_89 : decode cX5_advances 89 = .ok (.aload_n 0, 1) := by decide +kernel
theorem dX5_advances_90 : decode cX5_advances 90 = .ok (.aload_n 0, 1) := by decide +kernel
theorem dX5_advances_91 : decode cX5_advances 91 = .ok (.getfield 77, 3) := by decide +kernel
theorem dX5_advances_94 : decode cX5_advances 94 = .ok (.bipush 99, 2) := by decide +kernel
theorem dX5_advances_96 : decode cX5_advances 96 = .ok (.if_icmp .le 10, 3) := by decide +kernel
theorem dX5_advances_99 : decode cX5_advances 99 = .ok (.aload_n 0, 1) := by decide +kernel
theorem dX5_advances_100 : decode cX5_advances 100 = .ok (.getfield 77, 3) := by decide +kernel
theorem dX5_advances_103 : decode cX5_advances 103 = .ok (.goto 22, 3) := by decide +kernel
theorem dX5_advances_106 : decode cX5_advances 106 = .ok (.bipush 10, 2) := by decide +kernel
theorem dX5_advances_108 : decode cX5_advances 108 = .ok (.aload_n 0, 1) := by decide +kernel
theorem dX5_advances_109 : decode cX5_advances 109 = .ok (.getfield 77, 3) := by decide +kernel
theorem dX5_advances_112 : decode cX5_advances 112 = .ok (.imul, 1) := by decide +kernel
theorem dX5_advances_113 : decode cX5_advances 113 = .ok (.aload_n 0, 1) := by decide +kernel
theorem dX5_advances_114 : decode cX5_advances 114 = .ok (.aload_n 0, 1) := by decide +kernel
theorem dX5_advances_115 : decode cX5_advances 115 = .ok (.getfield 64, 3) := by decide +kernel
theorem dX5_advances_118 : decode cX5_advances 118 = .ok (.invokevirtual 67, 3) := by decide +kernel
theorem dX5_advances_121 : decode cX5_advances 121 = .ok (.iadd, 1) := by decide +kernel
theorem dX5_advances_122 : decode cX5_advances 122 = .ok (.bipush 48, 2) := by decide +kernel
theorem dX5_advances_124 : decode cX5_advances 124 = .ok (.isub, 1) := by decide +kernel
theorem dX5_advances_125 : decode cX5_advances 125 = .ok (.putfield 77, 3) := by decide +kernel
theorem dX5_advances_128 : decode cX5_advances 128 = .ok (.aload_n 0, 1) := by decide +kernel
theorem dX5_advances_129 : decode cX5_advances 129 = .ok (.dup, 1) := by decide +kernel
theorem dX5_advances_130 : decode cX5_advances 130 = .ok (.getfield 64, 3) := by decide +kernel
theorem dX5_advances_133 : decode cX5_advances 133 = .ok (.iconst 1, 1) := by decide +kernel
theorem dX5_advances_134 : decode cX5_advances 134 = .ok (.iadd, 1) := by decide +kernel
theorem dX5_advances_135 : decode cX5_advances 135 = .ok (.putfield 64, 3) := by decide +kernel
theorem dX5_advances_138 : decode cX5_advances 138 = .ok (.goto (-67), 3) := by decide +kernel
theorem dX5_advances_141 : decode cX5_advances 141 = .ok (.aload_n 0, 1) := by decide +kernel
theorem dX5_advances_142 : decode cX5_advances 142 = .ok (.aload_n 0, 1) := by decide +kernel
theorem dX5_advances_143 : decode cX5_advances 143 = .ok (.getfield 77, 3) := by decide +kernel
theorem dX5_advances_146 : decode cX5_advances 146 = .ok (.bipush 99, 2) := by decide +kernel
theorem dX5_advances_148 : decode cX5_advances 148 = .ok (.if_icmp .gt 22, 3) := by decide +kernel
theorem dX5_advances_151 : decode cX5_advances 151 = .ok (.iload_n 1, 1) := by decide +kernel
theorem dX5_advances_152 : decode cX5_advances 152 = .ok (.bipush 48, 2) := by decide +kernel
theorem dX5_advances_154 : decode cX5_advances 154 = .ok (.if_icmp .ne 20, 3) := by decide +kernel
theorem dX5_advances_157 : decode cX5_advances 157 = .ok (.aload_n 0, 1) := by decide +kernel
theorem dX5_advances_158 : decode cX5_advances 158 = .ok (.getfield 64, 3) := by decide +kernel
theorem dX5_advances_161 : decode cX5_advances 161 = .ok (.aload_n 0, 1) := by decide +kernel
theorem dX5_advances_162 : decode cX5_advances 162 = .ok (.getfield 71, 3) := by decide +kernel
theorem dX5_advances_165 : decode cX5_advances 165 = .ok (.isub, 1) := by decide +kernel
theorem dX5_advances_166 : decode cX5_advances 166 = .ok (.iconst 1, 1) := by decide +kernel
theorem dX5_advances_167 : decode cX5_advances 167 = .ok (.if_icmp .le 7, 3) := by decide +kernel
theorem dX5_advances_170 : decode cX5_advances 170 = .ok (.iconst 4, 1) := by decide +kernel
theorem dX5_advances_171 : decode cX5_advances 171 = .ok (.goto 4, 3) := by decide +kernel
theorem dX5_advances_174 : decode cX5_advances 174 = .ok (.iconst 2, 1) := by decide +kernel
theorem dX5_advances_175 : decode cX5_advances 175 = .ok (.putfield 74, 3) := by decide +kernel
theorem dX5_advances_178 : decode cX5_advances 178 = .ok (.goto 49, 3) := by decide +kernel
theorem dX5_advances_181 : decode cX5_advances 181 = .ok (.aload_n 0, 1) := by decide +kernel
theorem dX5_advances_182 : decode cX5_advances 182 = .ok (.dup, 1) := by decide +kernel
theorem dX5_advances_183 : decode cX5_advances 183 = .ok (.getfield 64, 3) := by decide +kernel
theorem dX5_advances_186 : decode cX5_advances 186 = .ok (.iconst 1, 1) := by decide +kernel
theorem dX5_advances_187 : decode cX5_advances 187 = .ok (.iadd, 1) := by decide +kernel
theorem dX5_advances_188 : decode cX5_advances 188 = .ok (.putfield 64, 3) := by decide +kernel
theorem dX5_advances_191 : decode cX5_advances 191 = .ok (.aload_n 0, 1) := by decide +kernel
theorem dX5_advances_192 : decode cX5_advances 192 = .ok (.iload_n 1, 1) := by decide +kernel
theorem dX5_advances_193 : decode cX5_advances 193 = .ok (.putfield 77, 3) := by decide +kernel
theorem dX5_advances_196 : decode cX5_advances 196 = .ok (.aload_n 0, 1) := by decide +kernel
theorem dX5_advances_197 : decode cX5_advances 197 = .ok (.iload_n 1, 1) := by decide +kernel
theorem dX5_advances_198 : decode cX5_advances 198 = .ok (.bipush 59, 2) := by decide +kernel
theorem dX5_advances_200 : decode cX5_advances 200 = .ok (.if_icmp .ne 7, 3) := by decide +kernel
theorem dX5_advances_203 : decode cX5_advances 203 = .ok (.iconst 3, 1) := by decide +kernel
theorem dX5_advances_204 : decode cX5_advances 204 = .ok (.goto 20, 3) := by decide +kernel
theorem dX5_advances_207 : decode cX5_advances 207 = .ok (.iload_n 1, 1) := by decide +kernel
theorem dX5_advances_208 : decode cX5_advances 208 = .ok (.bipush 114, 2) := by decide +kernel
theorem dX5_advances_210 : decode cX5_advances 210 = .ok (.if_icmp .eq 9, 3) := by decide +kernel
theorem dX5_advances_213 : decode cX5_advances 213 = .ok (.iload_n 1, 1) := by decide +kernel
theorem dX5_advances_214 : decode cX5_advances 214 = .ok (.bipush 100, 2) := by decide +kernel
theorem dX5_advances_216 : decode cX5_advances 216 = .ok (.if_icmp .ne 7, 3) := by decide +kernel
theorem dX5_advances_219 : decode cX5_advances 219 = .ok (.iconst 1, 1) := by decide +kernel
theorem dX5_advances_220 : decode cX5_advances 220 = .ok (.goto 4, 3) := by decide +kernel
theorem dX5_advances_223 : decode cX5_advances 223 = .ok (.iconst 4, 1) := by decide +kernel
theorem dX5_advances_224 : decode cX5_advances 224 = .ok (.putfield 74, 3) := by decide +kernel
theorem dX5_advances_227 : decode cX5_advances 227 = .ok (.return_, 1) := by decide +kernel
theorem dX5_isWell_0 : decode cX5_isWell 0 = .ok (.aload_n 0, 1) := by decide +kernel
theorem dX5_isWell_1 : decode cX5_isWell 1 = .ok (.getfield 80, 3) := by decide +kernel
theorem dX5_isWell_4 : decode cX5_isWell 4 = .ok (.ifCond .ge 7, 3) := by decide +kernel
theorem dX5_isWell_7 : decode cX5_isWell 7 = .ok (.iconst 1, 1) := by decide +kernel
theorem dX5_isWell_8 : decode cX5_isWell 8 = .ok (.goto 4, 3) := by decide +kernel
theorem dX5_isWell_11 : decode cX5_isWell 11 = .ok (.iconst 0, 1) := by decide +kernel
theorem dX5_isWell_12 : decode cX5_isWell 12 = .ok (.ireturn, 1) := by decide +kernel
theorem dX5_takes_0 : decode cX5_takes 0 = .ok (.aload_n 0, 1) := by decide +kernel
theorem dX5_takes_1 : decode cX5_takes 1 = .ok (.invokevirtual 83, 3) := by decide +kernel
theorem dX5_takes_4 : decode cX5_takes 4 = .ok (.ifCond .ne 5, 3) := by decide +kernel
theorem dX5_takes_7 : decode cX5_takes 7 = .ok (.iconst 0, 1) := by decide +kernel
theorem dX5_takes_8 : decode cX5_takes 8 = .ok (.ireturn, 1) := by decide +kernel
theorem dX5_takes_9 : decode cX5_takes 9 = .ok (.iload_n 1, 1) := by decide +kernel
theorem dX5_takes_10 : decode cX5_takes 10 = .ok (.ifCond .ne 13, 3) := by decide +kernel
theorem dX5_takes_13 : decode cX5_takes 13 = .ok (.aload_n 0, 1) := by decide +kernel
theorem dX5_takes_14 : decode cX5_takes 14 = .ok (.aload_n 0, 1) := by decide +kernel
theorem dX5_takes_15 : decode cX5_takes 15 = .ok (.getfield 71, 3) := by decide +kernel
theorem dX5_takes_18 : decode cX5_takes 18 = .ok (.putfield 80, 3) := by decide +kernel
theorem dX5_takes_21 : decode cX5_takes 21 = .ok (.iconst 0, 1) := by decide +kernel
theorem dX5_takes_22 : decode cX5_takes 22 = .ok (.ireturn, 1) := by decide +kernel
theorem dX5_takes_23 : decode cX5_takes 23 = .ok (.aload_n 0, 1) := by decide +kernel
theorem dX5_takes_24 : decode cX5_takes 24 = .ok (.getfield 77, 3) := by decide +kernel
theorem dX5_takes_27 : decode cX5_takes 27 = .ok (.istore_n 2, 1) := by decide +kernel
theorem dX5_takes_28 : decode cX5_takes 28 = .ok (.aload_n 0, 1) := by decide +kernel
theorem dX5_takes_29 : decode cX5_takes 29 = .ok (.invokevirtual 87, 3) := by decide +kernel
theorem dX5_takes_32 : decode cX5_takes 32 = .ok (.iload_n 2, 1) := by decide +kernel
theorem dX5_takes_33 : decode cX5_takes 33 = .ok (.ireturn, 1) := by decide +kernel
theorem dX5_number_0 : decode cX5_number 0 = .ok (.aload_n 0, 1) := by decide +kernel
theorem dX5_number_1 : decode cX5_number 1 = .ok (.aload_n 0, 1) := by decide +kernel
theorem dX5_number_2 : decode cX5_number 2 = .ok (.getfield 74, 3) := by decide +kernel
theorem dX5_number_5 : decode cX5_number 5 = .ok (.iconst 2, 1) := by decide +kernel
theorem dX5_number_6 : decode cX5_number 6 = .ok (.if_icmp .ne 19, 3) := by decide +kernel
theorem dX5_number_9 : decode cX5_number 9 = .ok (.aload_n 0, 1) := by decide +kernel
theorem dX5_number_10 : decode cX5_number 10 = .ok (.getfield 77, 3) := by decide +kernel
theorem dX5_number_13 : decode cX5_number 13 = .ok (.iload_n 1, 1) := by decide +kernel
theorem dX5_number_14 : decode cX5_number 14 = .ok (.iload_n 2, 1) := by decide +kernel
theorem dX5_number_15 : decode cX5_number 15 = .ok (.invokestatic 57, 3) := by decide +kernel
theorem dX5_number_18 : decode cX5_number 18 = .ok (.ifCond .eq 7, 3) := by decide +kernel
theorem dX5_number_21 : decode cX5_number 21 = .ok (.iconst 1, 1) := by decide +kernel
theorem dX5_number_22 : decode cX5_number 22 = .ok (.goto 4, 3) := by decide +kernel
theorem dX5_number_25 : decode cX5_number 25 = .ok (.iconst 0, 1) := by decide +kernel
theorem dX5_number_26 : decode cX5_number 26 = .ok (.invokevirtual 90, 3) := by decide +kernel
theorem dX5_number_29 : decode cX5_number 29 = .ok (.ireturn, 1) := by decide +kernel
theorem dX5_readsItem_0 : decode cX5_readsItem 0 = .ok (.iload_n 1, 1) := by decide +kernel
theorem dX5_readsItem_1 : decode cX5_readsItem 1 = .ok (.bipush 114, 2) := by decide +kernel
theorem dX5_readsItem_3 : decode cX5_readsItem 3 = .ok (.if_icmp .ne 63, 3) := by decide +kernel
theorem dX5_readsItem_6 : decode cX5_readsItem 6 = .ok (.bipush 8, 2) := by decide +kernel
theorem dX5_readsItem_8 : decode cX5_readsItem 8 = .ok (.aload_n 0, 1) := by decide +kernel
theorem dX5_readsItem_9 : decode cX5_readsItem 9 = .ok (.getfield 94, 3) := by decide +kernel
theorem dX5_readsItem_12 : decode cX5_readsItem 12 = .ok (.iadd, 1) := by decide +kernel
theorem dX5_readsItem_13 : decode cX5_readsItem 13 = .ok (.istore_n 2, 1) := by decide +kernel
theorem dX5_readsItem_14 : decode cX5_readsItem 14 = .ok (.aload_n 0, 1) := by decide +kernel
theorem dX5_readsItem_15 : decode cX5_readsItem 15 = .ok (.getfield 13, 3) := by decide +kernel
theorem dX5_readsItem_18 : decode cX5_readsItem 18 = .ok (.iload_n 2, 1) := by decide +kernel
theorem dX5_readsItem_19 : decode cX5_readsItem 19 = .ok (.aload_n 0, 1) := by decide +kernel
theorem dX5_readsItem_20 : decode cX5_readsItem 20 = .ok (.iconst 0, 1) := by decide +kernel
theorem dX5_readsItem_21 : decode cX5_readsItem 21 = .ok (.bipush 48, 2) := by decide +kernel
theorem dX5_readsItem_23 : decode cX5_readsItem 23 = .ok (.invokevirtual 97, 3) := by decide +kernel
theorem dX5_readsItem_26 : decode cX5_readsItem 26 = .ok (.iastore, 1) := by decide +kernel
theorem dX5_readsItem_27 : decode cX5_readsItem 27 = .ok (.aload_n 0, 1) := by decide +kernel
theorem dX5_readsItem_28 : decode cX5_readsItem 28 = .ok (.getfield 16, 3) := by decide +kernel
theorem dX5_readsItem_31 : decode cX5_readsItem 31 = .ok (.iload_n 2, 1) := by decide +kernel
theorem dX5_readsItem_32 : decode cX5_readsItem 32 = .ok (.aload_n 0, 1) := by decide +kernel
theorem dX5_readsItem_33 : decode cX5_readsItem 33 = .ok (.iconst 1, 1) := by decide +kernel
theorem dX5_readsItem_34 : decode cX5_readsItem 34 = .ok (.bipush 9, 2) := by decide +kernel
theorem dX5_readsItem_36 : decode cX5_readsItem 36 = .ok (.invokevirtual 97, 3) := by decide +kernel
theorem dX5_readsItem_39 : decode cX5_readsItem 39 = .ok (.iastore, 1) := by decide +kernel
theorem dX5_readsItem_40 : decode cX5_readsItem 40 = .ok (.aload_n 0, 1) := by decide +kernel
theorem dX5_readsItem_41 : decode cX5_readsItem 41 = .ok (.getfield 19, 3) := by decide +kernel
theorem dX5_readsItem_44 : decode cX5_readsItem 44 = .ok (.iload_n 2, 1) := by decide +kernel
theorem dX5_readsItem_45 : decode cX5_readsItem 45 = .ok (.aload_n 0, 1) := by decide +kernel
theorem dX5_readsItem_46 : decode cX5_readsItem 46 = .ok (.iconst 1, 1) := by decide +kernel
theorem dX5_readsItem_47 : decode cX5_readsItem 47 = .ok (.bipush 9, 2) := by decide +kernel
theorem dX5_readsItem_49 : decode cX5_readsItem 49 = .ok (.invokevirtual 97, 3) := by decide +kernel
theorem dX5_readsItem_52 : decode cX5_readsItem 52 = .ok (.iastore, 1) := by decide +kernel
theorem dX5_readsItem_53 : decode cX5_readsItem 53 = .ok (.aload_n 0, 1) := by decide +kernel
theorem dX5_readsItem_54 : decode cX5_readsItem 54 = .ok (.dup, 1) := by decide +kernel
theorem dX5_readsItem_55 : decode cX5_readsItem 55 = .ok (.getfield 94, 3) := by decide +kernel
theorem dX5_readsItem_58 : decode cX5_readsItem 58 = .ok (.iconst 1, 1) := by decide +kernel
theorem dX5_readsItem_59 : decode cX5_readsItem 59 = .ok (.iadd, 1) := by decide +kernel
theorem dX5_readsItem_60 : decode cX5_readsItem 60 = .ok (.putfield 94, 3) := by decide +kernel
theorem dX5_readsItem_63 : decode cX5_readsItem 63 = .ok (.goto 18, 3) := by decide +kernel
theorem dX5_readsItem_66 : decode cX5_readsItem 66 = .ok (.aload_n 0, 1) := by decide +kernel
theorem dX5_readsItem_67 : decode cX5_readsItem 67 = .ok (.aload_n 0, 1) := by decide +kernel
theorem dX5_readsItem_68 : decode cX5_readsItem 68 = .ok (.iconst 1, 1) := by decide +kernel
theorem dX5_readsItem_69 : decode cX5_readsItem 69 = .ok (.iconst 3, 1) := by decide +kernel
theorem dX5_readsItem_70 : decode cX5_readsItem 70 = .ok (.invokevirtual 97, 3) := by decide +kernel
theorem dX5_readsItem_73 : decode cX5_readsItem 73 = .ok (.putfield 101, 3) := by decide +kernel
theorem dX5_readsItem_76 : decode cX5_readsItem 76 = .ok (.aload_n 0, 1) := by decide +kernel
theorem dX5_readsItem_77 : decode cX5_readsItem 77 = .ok (.iconst 1, 1) := by decide +kernel
theorem dX5_readsItem_78 : decode cX5_readsItem 78 = .ok (.putfield 104, 3) := by decide +kernel
theorem dX5_readsItem_81 : decode cX5_readsItem 81 = .ok (.return_, 1) := by decide +kernel
theorem dX5_chime_0 : decode cX5_chime 0 = .ok (.aload_n 0, 1) := by decide +kernel
theorem dX5_chime_1 : decode cX5_chime 1 = .ok (.iconst 0, 1) := by decide +kernel
theorem dX5_chime_2 : decode cX5_chime 2 = .ok (.putfield 54, 3) := by decide +kernel
theorem dX5_chime_5 : decode cX5_chime 5 = .ok (.aload_n 0, 1) := by decide +kernel
theorem dX5_chime_6 : decode cX5_chime 6 = .ok (.iconst (-1), 1) := by decide +kernel
theorem dX5_chime_7 : decode cX5_chime 7 = .ok (.putfield 80, 3) := by decide +kernel
theorem dX5_chime_10 : decode cX5_chime 10 = .ok (.aload_n 0, 1) := by decide +kernel
theorem dX5_chime_11 : decode cX5_chime 11 = .ok (.iconst 0, 1) := by decide +kernel
theorem dX5_chime_12 : decode cX5_chime 12 = .ok (.putfield 64, 3) := by decide +kernel
theorem dX5_chime_15 : decode cX5_chime 15 = .ok (.aload_n 0, 1) := by decide +kernel
theorem dX5_chime_16 : decode cX5_chime 16 = .ok (.iconst 0, 1) := by decide +kernel
theorem dX5_chime_17 : decode cX5_chime 17 = .ok (.putfield 94, 3) := by decide +kernel
theorem dX5_chime_20 : decode cX5_chime 20 = .ok (.aload_n 0, 1) := by decide +kernel
theorem dX5_chime_21 : decode cX5_chime 21 = .ok (.iconst 1, 1) := by decide +kernel
theorem dX5_chime_22 : decode cX5_chime 22 = .ok (.putfield 101, 3) := by decide +kernel
theorem dX5_chime_25 : decode cX5_chime 25 = .ok (.aload_n 0, 1) := by decide +kernel
theorem dX5_chime_26 : decode cX5_chime 26 = .ok (.iconst 0, 1) := by decide +kernel
theorem dX5_chime_27 : decode cX5_chime 27 = .ok (.putfield 104, 3) := by decide +kernel
theorem dX5_chime_30 : decode cX5_chime 30 = .ok (.iconst 0, 1) := by decide +kernel
theorem dX5_chime_31 : decode cX5_chime 31 = .ok (.istore_n 1, 1) := by decide +kernel
theorem dX5_chime_32 : decode cX5_chime 32 = .ok (.aload_n 0, 1) := by decide +kernel
theorem dX5_chime_33 : decode cX5_chime 33 = .ok (.invokevirtual 87, 3) := by decide +kernel
theorem dX5_chime_36 : decode cX5_chime 36 = .ok (.aload_n 0, 1) := by decide +kernel
theorem dX5_chime_37 : decode cX5_chime 37 = .ok (.invokevirtual 83, 3) := by decide +kernel
theorem dX5_chime_40 : decode cX5_chime 40 = .ok (.ifCond .eq 92, 3) := by decide +kernel
theorem dX5_chime_43 : decode cX5_chime 43 = .ok (.aload_n 0, 1) := by decide +kernel
theorem dX5_chime_44 : decode cX5_chime 44 = .ok (.getfield 74, 3) := by decide +kernel
theorem dX5_chime_47 : decode cX5_chime 47 = .ok (.ifCond .eq 85, 3) := by decide +kernel
theorem dX5_chime_50 : decode cX5_chime 50 = .ok (.aload_n 0, 1) := by decide +kernel
theorem dX5_chime_51 : decode cX5_chime 51 = .ok (.aload_n 0, 1) := by decide +kernel
theorem dX5_chime_52 : decode cX5_chime 52 = .ok (.getfield 74, 3) := by decide +kernel
theorem dX5_chime_55 : decode cX5_chime 55 = .ok (.iconst 1, 1) := by decide +kernel
theorem dX5_chime_56 : decode cX5_chime 56 = .ok (.if_icmp .ne 35, 3) := by decide +kernel
theorem dX5_chime_59 : decode cX5_chime 59 = .ok (.aload_n 0, 1) := by decide +kernel
theorem dX5_chime_60 : decode cX5_chime 60 = .ok (.getfield 77, 3) := by decide +kernel
theorem dX5_chime_63 : decode cX5_chime 63 = .ok (.bipush 114, 2) := by decide +kernel
theorem dX5_chime_65 : decode cX5_chime 65 = .ok (.if_icmp .ne 15, 3) := by decide +kernel
theorem dX5_chime_68 : decode cX5_chime 68 = .ok (.aload_n 0, 1) := by decide +kernel
theorem dX5_chime_69 : decode cX5_chime 69 = .ok (.getfield 94, 3) := by decide +kernel
theorem dX5_chime_72 : decode cX5_chime 72 = .ok (.bipush 8, 2) := by decide +kernel
theorem dX5_chime_74 : decode cX5_chime 74 = .ok (.if_icmp .ge 17, 3) := by decide +kernel
theorem dX5_chime_77 : decode cX5_chime 77 = .ok (.goto 10, 3) := by decide +kernel
theorem dX5_chime_80 : decode cX5_chime 80 = .ok (.aload_n 0, 1) := by decide +kernel
theorem dX5_chime_81 : decode cX5_chime 81 = .ok (.getfield 104, 3) := by decide +kernel
theorem dX5_chime_84 : decode cX5_chime 84 = .ok (.ifCond .ne 7, 3) := by decide +kernel
theorem dX5_chime_87 : decode cX5_chime 87 = .ok (.iconst 1, 1) := by decide +kernel
theorem dX5_chime_88 : decode cX5_chime 88 = .ok (.goto 4, 3) := by decide +kernel
theorem dX5_chime_91 : decode cX5_chime 91 = .ok (.iconst 0, 1) := by decide +kernel
theorem dX5_chime_92 : decode cX5_chime 92 = .ok (.invokevirtual 90, 3) := by decide +kernel
theorem dX5_chime_95 : decode cX5_chime 95 = .ok (.istore_n 2, 1) := by decide +kernel
theorem dX5_chime_96 : decode cX5_chime 96 = .ok (.aload_n 0, 1) := by decide +kernel
theorem dX5_chime_97 : decode cX5_chime 97 = .ok (.invokevirtual 83, 3) := by decide +kernel
theorem dX5_chime_100 : decode cX5_chime 100 = .ok (.ifCond .eq 8, 3) := by decide +kernel
theorem dX5_chime_103 : decode cX5_chime 103 = .ok (.aload_n 0, 1) := by decide +kernel
theorem dX5_chime_104 : decode cX5_chime 104 = .ok (.iload_n 2, 1) := by decide +kernel
theorem dX5_chime_105 : decode cX5_chime 105 = .ok (.invokevirtual 108, 3) := by decide +kernel
theorem dX5_chime_108 : decode cX5_chime 108 = .ok (.aload_n 0, 1) := by decide +kernel
theorem dX5_chime_109 : decode cX5_chime 109 = .ok (.aload_n 0, 1) := by decide +kernel
theorem dX5_chime_110 : decode cX5_chime 110 = .ok (.getfield 74, 3) := by decide +kernel
theorem dX5_chime_113 : decode cX5_chime 113 = .ok (.iconst 3, 1) := by decide +kernel
theorem dX5_chime_114 : decode cX5_chime 114 = .ok (.if_icmp .ne 7, 3) := by decide +kernel
theorem dX5_chime_117 : decode cX5_chime 117 = .ok (.iconst 1, 1) := by decide +kernel
theorem dX5_chime_118 : decode cX5_chime 118 = .ok (.goto 4, 3) := by decide +kernel
theorem dX5_chime_121 : decode cX5_chime 121 = .ok (.iconst 0, 1) := by decide +kernel
theorem dX5_chime_122 : decode cX5_chime 122 = .ok (.invokevirtual 90, 3) := by decide +kernel
theorem dX5_chime_125 : decode cX5_chime 125 = .ok (.pop, 1) := by decide +kernel
theorem dX5_chime_126 : decode cX5_chime 126 = .ok (.iinc 1 1, 3) := by decide +kernel
theorem dX5_chime_129 : decode cX5_chime 129 = .ok (.goto (-93), 3) := by decide +kernel
theorem dX5_chime_132 : decode cX5_chime 132 = .ok (.aload_n 0, 1) := by decide +kernel
theorem dX5_chime_133 : decode cX5_chime 133 = .ok (.invokevirtual 83, 3) := by decide +kernel
theorem dX5_chime_136 : decode cX5_chime 136 = .ok (.ifCond .eq 19, 3) := by decide +kernel
theorem dX5_chime_139 : decode cX5_chime 139 = .ok (.aload_n 0, 1) := by decide +kernel
theorem dX5_chime_140 : decode cX5_chime 140 = .ok (.getfield 94, 3) := by decide +kernel
theorem dX5_chime_143 : decode cX5_chime 143 = .ok (.iconst 3, 1) := by decide +kernel
theorem dX5_chime_144 : decode cX5_chime 144 = .ok (.if_icmp .ge 11, 3) := by decide +kernel
theorem dX5_chime_147 : decode cX5_chime 147 = .ok (.aload_n 0, 1) := by decide +kernel
theorem dX5_chime_148 : decode cX5_chime 148 = .ok (.aload_n 0, 1) := by decide +kernel
theorem dX5_chime_149 : decode cX5_chime 149 = .ok (.getfield 61, 3) := by decide +kernel
theorem dX5_chime_152 : decode cX5_chime 152 = .ok (.putfield 80, 3) := by decide +kernel
theorem dX5_chime_155 : decode cX5_chime 155 = .ok (.aload_n 0, 1) := by decide +kernel
theorem dX5_chime_156 : decode cX5_chime 156 = .ok (.invokevirtual 83, 3) := by decide +kernel
theorem dX5_chime_159 : decode cX5_chime 159 = .ok (.ifCond .ne 11, 3) := by decide +kernel
theorem dX5_chime_162 : decode cX5_chime 162 = .ok (.bipush (-10), 2) := by decide +kernel
theorem dX5_chime_164 : decode cX5_chime 164 = .ok (.aload_n 0, 1) := by decide +kernel
theorem dX5_chime_165 : decode cX5_chime 165 = .ok (.getfield 80, 3) := by decide +kernel
theorem dX5_chime_168 : decode cX5_chime 168 = .ok (.isub, 1) := by decide +kernel
theorem dX5_chime_169 : decode cX5_chime 169 = .ok (.ireturn, 1) := by decide +kernel
theorem dX5_chime_170 : decode cX5_chime 170 = .ok (.aload_n 0, 1) := by decide +kernel
theorem dX5_chime_171 : decode cX5_chime 171 = .ok (.invokevirtual 112, 3) := by decide +kernel
theorem dX5_chime_174 : decode cX5_chime 174 = .ok (.iload_n 1, 1) := by decide +kernel
theorem dX5_chime_175 : decode cX5_chime 175 = .ok (.ireturn, 1) := by decide +kernel
theorem dX5_settles_0 : decode cX5_settles 0 = .ok (.aload_n 0, 1) := by decide +kernel
theorem dX5_settles_1 : decode cX5_settles 1 = .ok (.aload_n 0, 1) := by decide +kernel
theorem dX5_settles_2 : decode cX5_settles 2 = .ok (.getfield 94, 3) := by decide +kernel
theorem dX5_settles_5 : decode cX5_settles 5 = .ok (.putfield 115, 3) := by decide +kernel
theorem dX5_settles_8 : decode cX5_settles 8 = .ok (.aload_n 0, 1) := by decide +kernel
theorem dX5_settles_9 : decode cX5_settles 9 = .ok (.aload_n 0, 1) := by decide +kernel
theorem dX5_settles_10 : decode cX5_settles 10 = .ok (.getfield 101, 3) := by decide +kernel
theorem dX5_settles_13 : decode cX5_settles 13 = .ok (.putfield 50, 3) := by decide +kernel
theorem dX5_settles_16 : decode cX5_settles 16 = .ok (.iconst 0, 1) := by decide +kernel
theorem dX5_settles_17 : decode cX5_settles 17 = .ok (.istore_n 1, 1) := by decide +kernel
theorem dX5_settles_18 : decode cX5_settles 18 = .ok (.iload_n 1, 1) := by decide +kernel
theorem dX5_settles_19 : decode cX5_settles 19 = .ok (.bipush 19, 2) := by decide +kernel
theorem dX5_settles_21 : decode cX5_settles 21 = .ok (.if_icmp .ge 16, 3) := by decide +kernel
theorem dX5_settles_24 : decode cX5_settles 24 = .ok (.aload_n 0, 1) := by decide +kernel
theorem dX5_settles_25 : decode cX5_settles 25 = .ok (.getfield 22, 3) := by decide +kernel
theorem dX5_settles_28 : decode cX5_settles 28 = .ok (.iload_n 1, 1) := by decide +kernel
theorem dX5_settles_29 : decode cX5_settles 29 = .ok (.iconst 0, 1) := by decide +kernel
theorem dX5_settles_30 : decode cX5_settles 30 = .ok (.iastore, 1) := by decide +kernel
theorem dX5_settles_31 : decode cX5_settles 31 = .ok (.iinc 1 1, 3) := by decide +kernel
theorem dX5_settles_34 : decode cX5_settles 34 = .ok (.goto (-16), 3) := by decide +kernel
theorem dX5_settles_37 : decode cX5_settles 37 = .ok (.iconst 0, 1) := by decide +kernel
theorem dX5_settles_38 : decode cX5_settles 38 = .ok (.istore_n 1, 1) := by decide +kernel
theorem dX5_settles_39 : decode cX5_settles 39 = .ok (.iload_n 1, 1) := by decide +kernel
theorem dX5_settles_40 : decode cX5_settles 40 = .ok (.bipush 8, 2) := by decide +kernel
theorem dX5_settles_42 : decode cX5_settles 42 = .ok (.if_icmp .ge 63, 3) := by decide +kernel
theorem dX5_settles_45 : decode cX5_settles 45 = .ok (.aload_n 0, 1) := by decide +kernel
theorem dX5_settles_46 : decode cX5_settles 46 = .ok (.getfield 13, 3) := by decide +kernel
theorem dX5_settles_49 : decode cX5_settles 49 = .ok (.iload_n 1, 1) := by decide +kernel
theorem dX5_settles_50 : decode cX5_settles 50 = .ok (.aload_n 0, 1) := by decide +kernel
theorem dX5_settles_51 : decode cX5_settles 51 = .ok (.getfield 13, 3) := by decide +kernel
theorem dX5_settles_54 : decode cX5_settles 54 = .ok (.bipush 8, 2) := by decide +kernel
theorem dX5_settles_56 : decode cX5_settles 56 = .ok (.iload_n 1, 1) := by decide +kernel
theorem dX5_settles_57 : decode cX5_settles 57 = .ok (.iadd, 1) := by decide +kernel
theorem dX5_settles_58 : decode cX5_settles 58 = .ok (.iaload, 1) := by decide +kernel
theorem dX5_settles_59 : decode cX5_settles 59 = .ok (.iastore, 1) := by decide +kernel
theorem dX5_settles_60 : decode cX5_settles 60 = .ok (.aload_n 0, 1) := by decide +kernel
theorem dX5_settles_61 : decode cX5_settles 61 = .ok (.getfield 16, 3) := by decide +kernel
theorem dX5_settles_64 : decode cX5_settles 64 = .ok (.iload_n 1, 1) := by decide +kernel
theorem dX5_settles_65 : decode cX5_settles 65 = .ok (.aload_n 0, 1) := by decide +kernel
theorem dX5_settles_66 : decode cX5_settles 66 = .ok (.getfield 16, 3) := by decide +kernel
theorem dX5_settles_69 : decode cX5_settles 69 = .ok (.bipush 8, 2) := by decide +kernel
theorem dX5_settles_71 : decode cX5_settles 71 = .ok (.iload_n 1, 1) := by decide +kernel
theorem dX5_settles_72 : decode cX5_settles 72 = .ok (.iadd, 1) := by decide +kernel
theorem dX5_settles_73 : decode cX5_settles 73 = .ok (.iaload, 1) := by decide +kernel
theorem dX5_settles_74 : decode cX5_settles 74 = .ok (.iastore, 1) := by decide +kernel
theorem dX5_settles_75 : decode cX5_settles 75 = .ok (.aload_n 0, 1) := by decide +kernel
theorem dX5_settles_76 : decode cX5_settles 76 = .ok (.getfield 19, 3) := by decide +kernel
theorem dX5_settles_79 : decode cX5_settles 79 = .ok (.iload_n 1, 1) := by decide +kernel
theorem dX5_settles_80 : decode cX5_settles 80 = .ok (.aload_n 0, 1) := by decide +kernel
theorem dX5_settles_81 : decode cX5_settles 81 = .ok (.getfield 19, 3) := by decide +kernel
theorem dX5_settles_84 : decode cX5_settles 84 = .ok (.bipush 8, 2) := by decide +kernel
theorem dX5_settles_86 : decode cX5_settles 86 = .ok (.iload_n 1, 1) := by decide +kernel
theorem dX5_settles_87 : decode cX5_settles 87 = .ok (.iadd, 1) := by decide +kernel
theorem dX5_settles_88 : decode cX5_settles 88 = .ok (.iaload, 1) := by decide +kernel
theorem dX5_settles_89 : decode cX5_settles 89 = .ok (.iastore, 1) := by decide +kernel
theorem dX5_settles_90 : decode cX5_settles 90 = .ok (.aload_n 0, 1) := by decide +kernel
theorem dX5_settles_91 : decode cX5_settles 91 = .ok (.getfield 22, 3) := by decide +kernel
theorem dX5_settles_94 : decode cX5_settles 94 = .ok (.iconst 3, 1) := by decide +kernel
theorem dX5_settles_95 : decode cX5_settles 95 = .ok (.iload_n 1, 1) := by decide +kernel
theorem dX5_settles_96 : decode cX5_settles 96 = .ok (.iadd, 1) := by decide +kernel
theorem dX5_settles_97 : decode cX5_settles 97 = .ok (.iload_n 1, 1) := by decide +kernel
theorem dX5_settles_98 : decode cX5_settles 98 = .ok (.iastore, 1) := by decide +kernel
theorem dX5_settles_99 : decode cX5_settles 99 = .ok (.iinc 1 1, 3) := by decide +kernel
theorem dX5_settles_102 : decode cX5_settles 102 = .ok (.goto (-63), 3) := by decide +kernel
theorem dX5_settles_105 : decode cX5_settles 105 = .ok (.aload_n 0, 1) := by decide +kernel
theorem dX5_settles_106 : decode cX5_settles 106 = .ok (.iconst 0, 1) := by decide +kernel
theorem dX5_settles_107 : decode cX5_settles 107 = .ok (.putfield 61, 3) := by decide +kernel
theorem dX5_settles_110 : decode cX5_settles 110 = .ok (.aload_n 0, 1) := by decide +kernel
theorem dX5_settles_111 : decode cX5_settles 111 = .ok (.iconst 0, 1) := by decide +kernel
theorem dX5_settles_112 : decode cX5_settles 112 = .ok (.putfield 118, 3) := by decide +kernel
theorem dX5_settles_115 : decode cX5_settles 115 = .ok (.aload_n 0, 1) := by decide +kernel
theorem dX5_settles_116 : decode cX5_settles 116 = .ok (.iconst 0, 1) := by decide +kernel
theorem dX5_settles_117 : decode cX5_settles 117 = .ok (.putfield 121, 3) := by decide +kernel
theorem dX5_settles_120 : decode cX5_settles 120 = .ok (.aload_n 0, 1) := by decide +kernel
theorem dX5_settles_121 : decode cX5_settles 121 = .ok (.getfield 31, 3) := by decide +kernel
theorem dX5_settles_124 : decode cX5_settles 124 = .ok (.iconst 0, 1) := by decide +kernel
theorem dX5_settles_125 : decode cX5_settles 125 = .ok (.iconst 0, 1) := by decide +kernel
theorem dX5_settles_126 : decode cX5_settles 126 = .ok (.bastore, 1) := by decide +kernel
theorem dX5_settles_127 : decode cX5_settles 127 = .ok (.aload_n 0, 1) := by decide +kernel
theorem dX5_settles_128 : decode cX5_settles 128 = .ok (.getfield 31, 3) := by decide +kernel
theorem dX5_settles_131 : decode cX5_settles 131 = .ok (.iconst 1, 1) := by decide +kernel
theorem dX5_settles_132 : decode cX5_settles 132 = .ok (.iconst 0, 1) := by decide +kernel
theorem dX5_settles_133 : decode cX5_settles 133 = .ok (.bastore, 1) := by decide +kernel
theorem dX5_settles_134 : decode cX5_settles 134 = .ok (.return_, 1) := by decide +kernel
theorem dX5_isRod_0 : decode cX5_isRod 0 = .ok (.iload_n 1, 1) := by decide +kernel
theorem dX5_isRod_1 : decode cX5_isRod 1 = .ok (.iconst 0, 1) := by decide +kernel
theorem dX5_isRod_2 : decode cX5_isRod 2 = .ok (.aload_n 0, 1) := by decide +kernel
theorem dX5_isRod_3 : decode cX5_isRod 3 = .ok (.getfield 115, 3) := by decide +kernel
theorem dX5_isRod_6 : decode cX5_isRod 6 = .ok (.iconst 1, 1) := by decide +kernel
theorem dX5_isRod_7 : decode cX5_isRod 7 = .ok (.isub, 1) := by decide +kernel
theorem dX5_isRod_8 : decode cX5_isRod 8 = .ok (.invokestatic 57, 3) := by decide +kernel
theorem dX5_isRod_11 : decode cX5_isRod 11 = .ok (.ireturn, 1) := by decide +kernel
theorem dX5_rodAt_0 : decode cX5_rodAt 0 = .ok (.bipush (-9), 2) := by decide +kernel
theorem dX5_rodAt_2 : decode cX5_rodAt 2 = .ok (.istore_n 3, 1) := by decide +kernel
theorem dX5_rodAt_3 : decode cX5_rodAt 3 = .ok (.iconst 0, 1) := by decide +kernel
theorem dX5_rodAt_4 : decode cX5_rodAt 4 = .ok (.istore 4, 2) := by decide +kernel
theorem dX5_rodAt_6 : decode cX5_rodAt 6 = .ok (.iload 4, 2) := by decide +kernel
theorem dX5_rodAt_8 : decode cX5_rodAt 8 = .ok (.aload_n 0, 1) := by decide +kernel
theorem dX5_rodAt_9 : decode cX5_rodAt 9 = .ok (.getfield 115, 3) := by decide +kernel
theorem dX5_rodAt_12 : decode cX5_rodAt 12 = .ok (.if_icmp .ge 26, 3) := by decide +kernel
theorem dX5_rodAt_15 : decode cX5_rodAt 15 = .ok (.aload_n 1, 1) := by decide +kernel
theorem dX5_rodAt_16 : decode cX5_rodAt 16 = .ok (.iconst 3, 1) := by decide +kernel
theorem dX5_rodAt_17 : decode cX5_rodAt 17 = .ok (.iload 4, 2) := by decide +kernel
theorem dX5_rodAt_19 : decode cX5_rodAt 19 = .ok (.iadd, 1) := by decide +kernel
theorem dX5_rodAt_20 : decode cX5_rodAt 20 = .ok (.iaload, 1) := by decide +kernel
theorem dX5_rodAt_21 : decode cX5_rodAt 21 = .ok (.iload_n 2, 1) := by decide +kernel
theorem dX5_rodAt_22 : decode cX5_rodAt 22 = .ok (.if_icmp .ne 8, 3) := by decide +kernel
theorem dX5_rodAt_25 : decode cX5_rodAt 25 = .ok (.iload 4, 2) := by decide +kernel
theorem dX5_rodAt_27 : decode cX5_rodAt 27 = .ok (.goto 4, 3) := by decide +kernel
theorem dX5_rodAt_30 : decode cX5_rodAt 30 = .ok (.iload_n 3, 1) := by decide +kernel
theorem dX5_rodAt_31 : decode cX5_rodAt 31 = .ok (.istore_n 3, 1) := by decide +kernel
theorem dX5_rodAt_32 : decode cX5_rodAt 32 = .ok (.iinc 4 1, 3) := by decide +kernel
theorem dX5_rodAt_35 : decode cX5_rodAt 35 = .ok (.goto (-29), 3) := by decide +kernel
theorem dX5_rodAt_38 : decode cX5_rodAt 38 = .ok (.iload_n 3, 1) := by decide +kernel
theorem dX5_rodAt_39 : decode cX5_rodAt 39 = .ok (.ireturn, 1) := by decide +kernel
theorem dX5_ringing_0 : decode cX5_ringing 0 = .ok (.iconst 0, 1) := by decide +kernel
theorem dX5_ringing_1 : decode cX5_ringing 1 = .ok (.istore_n 2, 1) := by decide +kernel
theorem dX5_ringing_2 : decode cX5_ringing 2 = .ok (.iconst 0, 1) := by decide +kernel
theorem dX5_ringing_3 : decode cX5_ringing 3 = .ok (.istore_n 3, 1) := by decide +kernel
theorem dX5_ringing_4 : decode cX5_ringing 4 = .ok (.iload_n 3, 1) := by decide +kernel
theorem dX5_ringing_5 : decode cX5_ringing 5 = .ok (.aload_n 0, 1) := by decide +kernel
theorem dX5_ringing_6 : decode cX5_ringing 6 = .ok (.getfield 115, 3) := by decide +kernel
theorem dX5_ringing_9 : decode cX5_ringing 9 = .ok (.if_icmp .ge 28, 3) := by decide +kernel
theorem dX5_ringing_12 : decode cX5_ringing 12 = .ok (.iload_n 2, 1) := by decide +kernel
theorem dX5_ringing_13 : decode cX5_ringing 13 = .ok (.aload_n 1, 1) := by decide +kernel
theorem dX5_ringing_14 : decode cX5_ringing 14 = .ok (.bipush 11, 2) := by decide +kernel
theorem dX5_ringing_16 : decode cX5_ringing 16 = .ok (.iload_n 3, 1) := by decide +kernel
theorem dX5_ringing_17 : decode cX5_ringing 17 = .ok (.iadd, 1) := by decide +kernel
theorem dX5_ringing_18 : decode cX5_ringing 18 = .ok (.iaload, 1) := by decide +kernel
theorem dX5_ringing_19 : decode cX5_ringing 19 = .ok (.ifCond .le 9, 3) := by decide +kernel
theorem dX5_ringing_22 : decode cX5_ringing 22 = .ok (.iconst 1, 1) := by decide +kernel
theorem dX5_ringing_23 : decode cX5_ringing 23 = .ok (.iload_n 3, 1) := by decide +kernel
theorem dX5_ringing_24 : decode cX5_ringing 24 = .ok (.ishl, 1) := by decide +kernel
theorem dX5_ringing_25 : decode cX5_ringing 25 = .ok (.goto 4, 3) := by decide +kernel
theorem dX5_ringing_28 : decode cX5_ringing 28 = .ok (.iconst 0, 1) := by decide +kernel
theorem dX5_ringing_29 : decode cX5_ringing 29 = .ok (.ior, 1) := by decide +kernel
theorem dX5_ringing_30 : decode cX5_ringing 30 = .ok (.istore_n 2, 1) := by decide +kernel
theorem dX5_ringing_31 : decode cX5_ringing 31 = .ok (.iinc 3 1, 3) := by decide +kernel
theorem dX5_ringing_34 : decode cX5_ringing 34 = .ok (.goto (-30), 3) := by decide +kernel
theorem dX5_ringing_37 : decode cX5_ringing 37 = .ok (.iload_n 2, 1) := by decide +kernel
theorem dX5_ringing_38 : decode cX5_ringing 38 = .ok (.ireturn, 1) := by decide +kernel
theorem dX5_isHarsh_0 : decode cX5_isHarsh 0 = .ok (.aload_n 0, 1) := by decide +kernel
theorem dX5_isHarsh_1 : decode cX5_isHarsh 1 = .ok (.getfield 13, 3) := by decide +kernel
theorem dX5_isHarsh_4 : decode cX5_isHarsh 4 = .ok (.iload_n 1, 1) := by decide +kernel
theorem dX5_isHarsh_5 : decode cX5_isHarsh 5 = .ok (.iaload, 1) := by decide +kernel
theorem dX5_isHarsh_6 : decode cX5_isHarsh 6 = .ok (.aload_n 0, 1) := by decide +kernel
theorem dX5_isHarsh_7 : decode cX5_isHarsh 7 = .ok (.getfield 13, 3) := by decide +kernel
theorem dX5_isHarsh_10 : decode cX5_isHarsh 10 = .ok (.iload_n 2, 1) := by decide +kernel
theorem dX5_isHarsh_11 : decode cX5_isHarsh 11 = .ok (.iaload, 1) := by decide +kernel
