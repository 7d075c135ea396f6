theorem dX4_init_0 : decode cX4_init 0 = .ok (.aload_n 0, 1) := by decide +kernel
theorem dX4_init_1 : decode cX4_init 1 = .ok (.invokespecial 1, 3) := by decide +kernel
theorem dX4_init_4 : decode cX4_init 4 = .ok (.aload_n 0, 1) := by decide +kernel
theorem dX4_init_5 : decode cX4_init 5 = .ok (.new 7, 3) := by decide +kernel
theorem dX4_init_8 : decode cX4_init 8 = .ok (.dup, 1) := by decide +kernel
theorem dX4_init_9 : decode cX4_init 9 = .ok (.invokespecial 9, 3) := by decide +kernel
theorem dX4_init_12 : decode cX4_init 12 = .ok (.putfield 10, 3) := by decide +kernel
theorem dX4_init_15 : decode cX4_init 15 = .ok (.aload_n 0, 1) := by decide +kernel
theorem dX4_init_16 : decode cX4_init 16 = .ok (.new 16, 3) := by decide +kernel
theorem dX4_init_19 : decode cX4_init 19 = .ok (.dup, 1) := by decide +kernel
theorem dX4_init_20 : decode cX4_init 20 = .ok (.invokespecial 18, 3) := by decide +kernel
theorem dX4_init_23 : decode cX4_init 23 = .ok (.putfield 19, 3) := by decide +kernel
theorem dX4_init_26 : decode cX4_init 26 = .ok (.aload_n 0, 1) := by decide +kernel
theorem dX4_init_27 : decode cX4_init 27 = .ok (.new 23, 3) := by decide +kernel
theorem dX4_init_30 : decode cX4_init 30 = .ok (.dup, 1) := by decide +kernel
theorem dX4_init_31 : decode cX4_init 31 = .ok (.aload_n 0, 1) := by decide +kernel
theorem dX4_init_32 : decode cX4_init 32 = .ok (.getfield 19, 3) := by decide +kernel
theorem dX4_init_35 : decode cX4_init 35 = .ok (.invokespecial 25, 3) := by decide +kernel
theorem dX4_init_38 : decode cX4_init 38 = .ok (.putfield 28, 3) := by decide +kernel
theorem dX4_init_41 : decode cX4_init 41 = .ok (.aload_n 0, 1) := by decide +kernel
theorem dX4_init_42 : decode cX4_init 42 = .ok (.new 32, 3) := by decide +kernel
theorem dX4_init_45 : decode cX4_init 45 = .ok (.dup, 1) := by decide +kernel
theorem dX4_init_46 : decode cX4_init 46 = .ok (.aload_n 0, 1) := by decide +kernel
theorem dX4_init_47 : decode cX4_init 47 = .ok (.getfield 19, 3) := by decide +kernel
theorem dX4_init_50 : decode cX4_init 50 = .ok (.invokespecial 34, 3) := by decide +kernel
theorem dX4_init_53 : decode cX4_init 53 = .ok (.putfield 35, 3) := by decide +kernel
theorem dX4_init_56 : decode cX4_init 56 = .ok (.aload_n 0, 1) := by decide +kernel
theorem dX4_init_57 : decode cX4_init 57 = .ok (.bipush 10, 2) := by decide +kernel
theorem dX4_init_59 : decode cX4_init 59 = .ok (.anewarray 23, 3) := by decide +kernel
theorem dX4_init_62 : decode cX4_init 62 = .ok (.putfield 39, 3) := by decide +kernel
theorem dX4_init_65 : decode cX4_init 65 = .ok (.aload_n 0, 1) := by decide +kernel
theorem dX4_init_66 : decode cX4_init 66 = .ok (.iconst 2, 1) := by decide +kernel
theorem dX4_init_67 : decode cX4_init 67 = .ok (.anewarray 23, 3) := by decide +kernel
theorem dX4_init_70 : decode cX4_init 70 = .ok (.putfield 43, 3) := by decide +kernel
theorem dX4_init_73 : decode cX4_init 73 = .ok (.aload_n 0, 1) := by decide +kernel
theorem dX4_init_74 : decode cX4_init 74 = .ok (.iconst 2, 1) := by decide +kernel
theorem dX4_init_75 : decode cX4_init 75 = .ok (.newarray .boolean, 2) := by decide +kernel
theorem dX4_init_77 : decode cX4_init 77 = .ok (.putfield 46, 3) := by decide +kernel
theorem dX4_init_80 : decode cX4_init 80 = .ok (.aload_n 0, 1) := by decide +kernel
theorem dX4_init_81 : decode cX4_init 81 = .ok (.bipush 6, 2) := by decide +kernel
theorem dX4_init_83 : decode cX4_init 83 = .ok (.newarray .int, 2) := by decide +kernel
theorem dX4_init_85 : decode cX4_init 85 = .ok (.putfield 50, 3) := by decide +kernel
theorem dX4_init_88 : decode cX4_init 88 = .ok (.aload_n 0, 1) := by decide +kernel
theorem dX4_init_89 : decode cX4_init 89 = .ok (.bipush 6, 2) := by decide +kernel
theorem dX4_init_91 : decode cX4_init 91 = .ok (.newarray .int, 2) := by decide +kernel
theorem dX4_init_93 : decode cX4_init 93 = .ok (.putfield 54, 3) := by decide +kernel
theorem dX4_init_96 : decode cX4_init 96 = .ok (.aload_n 0, 1) := by decide +kernel
theorem dX4_init_97 : decode cX4_init 97 = .ok (.bipush 6, 2) := by decide +kernel
theorem dX4_init_99 : decode cX4_init 99 = .ok (.newarray .boolean, 2) := by decide +kernel
theorem dX4_init_101 : decode cX4_init 101 = .ok (.putfield 57, 3) := by decide +kernel
theorem dX4_init_104 : decode cX4_init 104 = .ok (.aload_n 0, 1) := by decide +kernel
theorem dX4_init_105 : decode cX4_init 105 = .ok (.bipush 8, 2) := by decide +kernel
theorem dX4_init_107 : decode cX4_init 107 = .ok (.newarray .int, 2) := by decide +kernel
theorem dX4_init_109 : decode cX4_init 109 = .ok (.putfield 60, 3) := by decide +kernel
theorem dX4_init_112 : decode cX4_init 112 = .ok (.iconst 0, 1) := by decide +kernel
theorem dX4_init_113 : decode cX4_init 113 = .ok (.istore_n 1, 1) := by decide +kernel
theorem dX4_init_114 : decode cX4_init 114 = .ok (.iload_n 1, 1) := by decide +kernel
theorem dX4_init_115 : decode cX4_init 115 = .ok (.bipush 10, 2) := by decide +kernel
theorem dX4_init_117 : decode cX4_init 117 = .ok (.if_icmp .ge 26, 3) := by decide +kernel
theorem dX4_init_120 : decode cX4_init 120 = .ok (.aload_n 0, 1) := by decide +kernel
theorem dX4_init_121 : decode cX4_init 121 = .ok (.getfield 39, 3) := by decide +kernel
theorem dX4_init_124 : decode cX4_init 124 = .ok (.iload_n 1, 1) := by decide +kernel
theorem dX4_init_125 : decode cX4_init 125 = .ok (.new 23, 3) := by decide +kernel
theorem dX4_init_128 : decode cX4_init 128 = .ok (.dup, 1) := by decide +kernel
theorem dX4_init_129 : decode cX4_init 129 = .ok (.aload_n 0, 1) := by decide +kernel
theorem dX4_init_130 : decode cX4_init 130 = .ok (.getfield 19, 3) := by decide +kernel
theorem dX4_init_133 : decode cX4_init 133 = .ok (.invokespecial 25, 3) := by decide +kernel
theorem dX4_init_136 : decode cX4_init 136 = .ok (.aastore, 1) := by decide +kernel
theorem dX4_init_137 : decode cX4_init 137 = .ok (.iinc 1 1, 3) := by decide +kernel
theorem dX4_init_140 : decode cX4_init 140 = .ok (.goto (-26), 3) := by decide +kernel
theorem dX4_init_143 : decode cX4_init 143 = .ok (.iconst 0, 1) := by decide +kernel
theorem dX4_init_144 : decode cX4_init 144 = .ok (.istore_n 1, 1) := by decide +kernel
theorem dX4_init_145 : decode cX4_init 145 = .ok (.iload_n 1, 1) := by decide +kernel
theorem dX4_init_146 : decode cX4_init 146 = .ok (.iconst 2, 1) := by decide +kernel
theorem dX4_init_147 : decode cX4_init 147 = .ok (.if_icmp .ge 26, 3) := by decide +kernel
theorem dX4_init_150 : decode cX4_init 150 = .ok (.aload_n 0, 1) := by decide +kernel
theorem dX4_init_151 : decode cX4_init 151 = .ok (.getfield 43, 3) := by decide +kernel
theorem dX4_init_154 : decode cX4_init 154 = .ok (.iload_n 1, 1) := by decide +kernel
theorem dX4_init_155 : decode cX4_init 155 = .ok (.new 23, 3) := by decide +kernel
theorem dX4_init_158 : decode cX4_init 158 = .ok (.dup, 1) := by decide +kernel
theorem dX4_init_159 : decode cX4_init 159 = .ok (.aload_n 0, 1) := by decide +kernel
theorem dX4_init_160 : decode cX4_init 160 = .ok (.getfield 19, 3) := by decide +kernel
theorem dX4_init_163 : decode cX4_init 163 = .ok (.invokespecial 25, 3) := by decide +kernel
theorem dX4_init_166 : decode cX4_init 166 = .ok (.aastore, 1) := by decide +kernel
theorem dX4_init_167 : decode cX4_init 167 = .ok (.iinc 1 1, 3) := by decide +kernel
theorem dX4_init_170 : decode cX4_init 170 = .ok (.goto (-25), 3) := by decide +kernel
theorem dX4_init_173 : decode cX4_init 173 = .ok (.return_, 1) := by decide +kernel
theorem dX4_type_0 : decode cX4_type 0 = .ok (.iload_n 1, 1) := by decide +kernel
theorem dX4_type_1 : decode cX4_type 1 = .ok (.iconst 0, 1) := by decide +kernel
theorem dX4_type_2 : decode cX4_type 2 = .ok (.sipush 255, 3) := by decide +kernel
theorem dX4_type_5 : decode cX4_type 5 = .ok (.invokestatic 63, 3) := by decide +kernel
theorem dX4_type_8 : decode cX4_type 8 = .ok (.ifCond .ne 5, 3) := by decide +kernel
theorem dX4_type_11 : decode cX4_type 11 = .ok (.iconst (-1), 1) := by decide +kernel
theorem dX4_type_12 : decode cX4_type 12 = .ok (.ireturn, 1) := by decide +kernel
theorem dX4_type_13 : decode cX4_type 13 = .ok (.aload_n 0, 1) := by decide +kernel
theorem dX4_type_14 : decode cX4_type 14 = .ok (.getfield 10, 3) := by decide +kernel
theorem dX4_type_17 : decode cX4_type 17 = .ok (.iload_n 1, 1) := by decide +kernel
theorem dX4_type_18 : decode cX4_type 18 = .ok (.invokevirtual 67, 3) := by decide +kernel
theorem dX4_type_21 : decode cX4_type 21 = .ok (.ifCond .eq 13, 3) := by decide +kernel
theorem dX4_type_24 : decode cX4_type 24 = .ok (.aload_n 0, 1) := by decide +kernel
theorem dX4_type_25 : decode cX4_type 25 = .ok (.getfield 10, 3) := by decide +kernel
theorem dX4_type_28 : decode cX4_type 28 = .ok (.getfield 71, 3) := by decide +kernel
theorem dX4_type_31 : decode cX4_type 31 = .ok (.goto 5, 3) := by decide +kernel
theorem dX4_type_34 : decode cX4_type 34 = .ok (.bipush (-3), 2) := by decide +kernel
theorem dX4_type_36 : decode cX4_type 36 = .ok (.ireturn, 1) := by decide +kernel
theorem dX4_clear_0 : decode cX4_clear 0 = .ok (.aload_n 0, 1) := by decide +kernel
theorem dX4_clear_1 : decode cX4_clear 1 = .ok (.getfield 10, 3) := by decide +kernel
theorem dX4_clear_4 : decode cX4_clear 4 = .ok (.getfield 71, 3) := by decide +kernel
theorem dX4_clear_7 : decode cX4_clear 7 = .ok (.istore_n 1, 1) := by decide +kernel
theorem dX4_clear_8 : decode cX4_clear 8 = .ok (.aload_n 0, 1) := by decide +kernel
theorem dX4_clear_9 : decode cX4_clear 9 = .ok (.getfield 10, 3) := by decide +kernel
theorem dX4_clear_12 : decode cX4_clear 12 = .ok (.iconst 0, 1) := by decide +kernel
theorem dX4_clear_13 : decode cX4_clear 13 = .ok (.putfield 71, 3) := by decide +kernel
theorem dX4_clear_16 : decode cX4_clear 16 = .ok (.iload_n 1, 1) := by decide +kernel
theorem dX4_clear_17 : decode cX4_clear 17 = .ok (.ireturn, 1) := by decide +kernel
theorem dX4_chime_0 : decode cX4_chime 0 = .ok (.aload_n 0, 1) := by decide +kernel
theorem dX4_chime_1 : decode cX4_chime 1 = .ok (.getfield 10, 3) := by decide +kernel
theorem dX4_chime_4 : decode cX4_chime 4 = .ok (.invokevirtual 75, 3) := by decide +kernel
theorem dX4_chime_7 : decode cX4_chime 7 = .ok (.istore_n 1, 1) := by decide +kernel
theorem dX4_chime_8 : decode cX4_chime 8 = .ok (.iload_n 1, 1) := by decide +kernel
theorem dX4_chime_9 : decode cX4_chime 9 = .ok (.iconst (-1), 1) := by decide +kernel
theorem dX4_chime_10 : decode cX4_chime 10 = .ok (.if_icmp .eq 8, 3) := by decide +kernel
theorem dX4_chime_13 : decode cX4_chime 13 = .ok (.bipush (-10), 2) := by decide +kernel
theorem dX4_chime_15 : decode cX4_chime 15 = .ok (.iload_n 1, 1) := by decide +kernel
theorem dX4_chime_16 : decode cX4_chime 16 = .ok (.isub, 1) := by decide +kernel
theorem dX4_chime_17 : decode cX4_chime 17 = .ok (.ireturn, 1) := by decide +kernel
theorem dX4_chime_18 : decode cX4_chime 18 = .ok (.aload_n 0, 1) := by decide +kernel
theorem dX4_chime_19 : decode cX4_chime 19 = .ok (.getfield 19, 3) := by decide +kernel
theorem dX4_chime_22 : decode cX4_chime 22 = .ok (.aload_n 0, 1) := by decide +kernel
theorem dX4_chime_23 : decode cX4_chime 23 = .ok (.getfield 10, 3) := by decide +kernel
theorem dX4_chime_26 : decode cX4_chime 26 = .ok (.getfield 79, 3) := by decide +kernel
theorem dX4_chime_29 : decode cX4_chime 29 = .ok (.invokevirtual 82, 3) := by decide +kernel
theorem dX4_chime_32 : decode cX4_chime 32 = .ok (.aload_n 0, 1) := by decide +kernel
theorem dX4_chime_33 : decode cX4_chime 33 = .ok (.getfield 28, 3) := by decide +kernel
theorem dX4_chime_36 : decode cX4_chime 36 = .ok (.invokevirtual 85, 3) := by decide +kernel
theorem dX4_chime_39 : decode cX4_chime 39 = .ok (.aload_n 0, 1) := by decide +kernel
theorem dX4_chime_40 : decode cX4_chime 40 = .ok (.getfield 10, 3) := by decide +kernel
theorem dX4_chime_43 : decode cX4_chime 43 = .ok (.iconst 0, 1) := by decide +kernel
theorem dX4_chime_44 : decode cX4_chime 44 = .ok (.putfield 71, 3) := by decide +kernel
theorem dX4_chime_47 : decode cX4_chime 47 = .ok (.aload_n 0, 1) := by decide +kernel
theorem dX4_chime_48 : decode cX4_chime 48 = .ok (.iconst 0, 1) := by decide +kernel
theorem dX4_chime_49 : decode cX4_chime 49 = .ok (.putfield 88, 3) := by decide +kernel
theorem dX4_chime_52 : decode cX4_chime 52 = .ok (.aload_n 0, 1) := by decide +kernel
theorem dX4_chime_53 : decode cX4_chime 53 = .ok (.iconst 0, 1) := by decide +kernel
theorem dX4_chime_54 : decode cX4_chime 54 = .ok (.putfield 91, 3) := by decide +kernel
theorem dX4_chime_57 : decode cX4_chime 57 = .ok (.iconst 0, 1) := by decide +kernel
theorem dX4_chime_58 : decode cX4_chime 58 = .ok (.istore_n 2, 1) := by decide +kernel
theorem dX4_chime_59 : decode cX4_chime 59 = .ok (.iload_n 2, 1) := by decide +kernel
theorem dX4_chime_60 : decode cX4_chime 60 = .ok (.iconst 2, 1) := by decide +kernel
theorem dX4_chime_61 : decode cX4_chime 61 = .ok (.if_icmp .ge 16, 3) := by decide +kernel
theorem dX4_chime_64 : decode cX4_chime 64 = .ok (.aload_n 0, 1) := by decide +kernel
theorem dX4_chime_65 : decode cX4_chime 65 = .ok (.getfield 46, 3) := by decide +kernel
theorem dX4_chime_68 : decode cX4_chime 68 = .ok (.iload_n 2, 1) := by decide +kernel
theorem dX4_chime_69 : decode cX4_chime 69 = .ok (.iconst 0, 1) := by decide +kernel
theorem dX4_chime_70 : decode cX4_chime 70 = .ok (.bastore, 1) := by decide +kernel
theorem dX4_chime_71 : decode cX4_chime 71 = .ok (.iinc 2 1, 3) := by decide +kernel
theorem dX4_chime_74 : decode cX4_chime 74 = .ok (.goto (-15), 3) := by decide +kernel
theorem dX4_chime_77 : decode cX4_chime 77 = .ok (.aload_n 0, 1) := by decide +kernel
theorem dX4_chime_78 : decode cX4_chime 78 = .ok (.getfield 10, 3) := by decide +kernel
theorem dX4_chime_81 : decode cX4_chime 81 = .ok (.getfield 94, 3) := by decide +kernel
theorem dX4_chime_84 : decode cX4_chime 84 = .ok (.ireturn, 1) := by decide +kernel
theorem dX4_rod_0 : decode cX4_rod 0 = .ok (.aload_n 0, 1) := by decide +kernel
theorem dX4_rod_1 : decode cX4_rod 1 = .ok (.getfield 19, 3) := by decide +kernel
theorem dX4_rod_4 : decode cX4_rod 4 = .ok (.iload_n 1, 1) := by decide +kernel
theorem dX4_rod_5 : decode cX4_rod 5 = .ok (.invokevirtual 97, 3) := by decide +kernel
theorem dX4_rod_8 : decode cX4_rod 8 = .ok (.ifCond .ne 5, 3) := by decide +kernel
theorem dX4_rod_11 : decode cX4_rod 11 = .ok (.iconst (-1), 1) := by decide +kernel
theorem dX4_rod_12 : decode cX4_rod 12 = .ok (.ireturn, 1) := by decide +kernel
theorem dX4_rod_13 : decode cX4_rod 13 = .ok (.iload_n 2, 1) := by decide +kernel
theorem dX4_rod_14 : decode cX4_rod 14 = .ok (.tableswitch 84 0 4 #[34, 44, 54, 64, 74], 34) := by decide +kernel
theorem dX4_rod_48 : decode cX4_rod 48 = .ok (.aload_n 0, 1) := by decide +kernel
theorem dX4_rod_49 : decode cX4_rod 49 = .ok (.getfield 19, 3) := by decide +kernel
theorem dX4_rod_52 : decode cX4_rod 52 = .ok (.getfield 100, 3) := by decide +kernel
theorem dX4_rod_55 : decode cX4_rod 55 = .ok (.iload_n 1, 1) := by decide +kernel
theorem dX4_rod_56 : decode cX4_rod 56 = .ok (.iaload, 1) := by decide +kernel
theorem dX4_rod_57 : decode cX4_rod 57 = .ok (.ireturn, 1) := by decide +kernel
theorem dX4_rod_58 : decode cX4_rod 58 = .ok (.aload_n 0, 1) := by decide +kernel
theorem dX4_rod_59 : decode cX4_rod 59 = .ok (.getfield 19, 3) := by decide +kernel
theorem dX4_rod_62 : decode cX4_rod 62 = .ok (.getfield 103, 3) := by decide +kernel
theorem dX4_rod_65 : decode cX4_rod 65 = .ok (.iload_n 1, 1) := by decide +kernel
theorem dX4_rod_66 : decode cX4_rod 66 = .ok (.iaload, 1) := by decide +kernel
theorem dX4_rod_67 : decode cX4_rod 67 = .ok (.ireturn, 1) := by decide +kernel
theorem dX4_rod_68 : decode cX4_rod 68 = .ok (.aload_n 0, 1) := by decide +kernel
theorem dX4_rod_69 : decode cX4_rod 69 = .ok (.getfield 19, 3) := by decide +kernel
theorem dX4_rod_72 : decode cX4_rod 72 = .ok (.getfield 106, 3) := by decide +kernel
theorem dX4_rod_75 : decode cX4_rod 75 = .ok (.iload_n 1, 1) := by decide +kernel
theorem dX4_rod_76 : decode cX4_rod 76 = .ok (.iaload, 1) := by decide +kernel
theorem dX4_rod_77 : decode cX4_rod 77 = .ok (.ireturn, 1) := by decide +kernel
theorem dX4_rod_78 : decode cX4_rod 78 = .ok (.aload_n 0, 1) := by decide +kernel
theorem dX4_rod_79 : decode cX4_rod 79 = .ok (.getfield 28, 3) := by decide +kernel
theorem dX4_rod_82 : decode cX4_rod 82 = .ok (.getfield 109, 3) := by decide +kernel
theorem dX4_rod_85 : decode cX4_rod 85 = .ok (.iload_n 1, 1) := by decide +kernel
theorem dX4_rod_86 : decode cX4_rod 86 = .ok (.iaload, 1) := by decide +kernel
theorem dX4_rod_87 : decode cX4_rod 87 = .ok (.ireturn, 1) := by decide +kernel
theorem dX4_rod_88 : decode cX4_rod 88 = .ok (.aload_n 0, 1) := by decide +kernel
theorem dX4_rod_89 : decode cX4_rod 89 = .ok (.getfield 28, 3) := by decide +kernel
theorem dX4_rod_92 : decode cX4_rod 92 = .ok (.getfield 112, 3) := by decide +kernel
theorem dX4_rod_95 : decode cX4_rod 95 = .ok (.iload_n 1, 1) := by decide +kernel
theorem dX4_rod_96 : decode cX4_rod 96 = .ok (.iaload, 1) := by decide +kernel
theorem dX4_rod_97 : decode cX4_rod 97 = .ok (.ireturn, 1) := by decide +kernel
theorem dX4_rod_98 : decode cX4_rod 98 = .ok (.iconst (-1), 1) := by decide +kernel
theorem dX4_rod_99 : decode cX4_rod 99 = .ok (.ireturn, 1) := by decide +kernel
theorem dX4_side_0 : decode cX4_side 0 = .ok (.aload_n 0, 1) := by decide +kernel
theorem dX4_side_1 : decode cX4_side 1 = .ok (.iload_n 1, 1) := by decide +kernel
theorem dX4_side_2 : decode cX4_side 2 = .ok (.invokevirtual 115, 3) := by decide +kernel
theorem dX4_side_5 : decode cX4_side 5 = .ok (.ifCond .eq 14, 3) := by decide +kernel
theorem dX4_side_8 : decode cX4_side 8 = .ok (.aload_n 0, 1) := by decide +kernel
theorem dX4_side_9 : decode cX4_side 9 = .ok (.getfield 28, 3) := by decide +kernel
theorem dX4_side_12 : decode cX4_side 12 = .ok (.iload_n 1, 1) := by decide +kernel
theorem dX4_side_13 : decode cX4_side 13 = .ok (.invokevirtual 118, 3) := by decide +kernel
theorem dX4_side_16 : decode cX4_side 16 = .ok (.goto 4, 3) := by decide +kernel
theorem dX4_side_19 : decode cX4_side 19 = .ok (.iconst (-1), 1) := by decide +kernel
theorem dX4_side_20 : decode cX4_side 20 = .ok (.ireturn, 1) := by decide +kernel
theorem dX4_now_0 : decode cX4_now 0 = .ok (.iload_n 1, 1) := by decide +kernel
theorem dX4_now_1 : decode cX4_now 1 = .ok (.tableswitch 100 0 6 #[43, 51, 59, 67, 75, 83, 95], 43) := by decide +kernel
theorem dX4_now_44 : decode cX4_now 44 = .ok (.aload_n 0, 1) := by decide +kernel
theorem dX4_now_45 : decode cX4_now 45 = .ok (.getfield 28, 3) := by decide +kernel
theorem dX4_now_48 : decode cX4_now 48 = .ok (.getfield 122, 3) := by decide +kernel
theorem dX4_now_51 : decode cX4_now 51 = .ok (.ireturn, 1) := by decide +kernel
theorem dX4_now_52 : decode cX4_now 52 = .ok (.aload_n 0, 1) := by decide +kernel
theorem dX4_now_53 : decode cX4_now 53 = .ok (.getfield 28, 3) := by decide +kernel
theorem dX4_now_56 : decode cX4_now 56 = .ok (.getfield 125, 3) := by decide +kernel
theorem dX4_now_59 : decode cX4_now 59 = .ok (.ireturn, 1) := by decide +kernel
theorem dX4_now_60 : decode cX4_now 60 = .ok (.aload_n 0, 1) := by decide +kernel
theorem dX4_now_61 : decode cX4_now 61 = .ok (.getfield 28, 3) := by decide +kernel
theorem dX4_now_64 : decode cX4_now 64 = .ok (.getfield 128, 3) := by decide +kernel
theorem dX4_now_67 : decode cX4_now 67 = .ok (.ireturn, 1) := by decide +kernel
theorem dX4_now_68 : decode cX4_now 68 = .ok (.aload_n 0, 1) := by decide +kernel
theorem dX4_now_69 : decode cX4_now 69 = .ok (.getfield 28, 3) := by decide +kernel
theorem dX4_now_72 : decode cX4_now 72 = .ok (.invokevirtual 131, 3) := by decide +kernel
theorem dX4_now_75 : decode cX4_now 75 = .ok (.ireturn, 1) := by decide +kernel
theorem dX4_now_76 : decode cX4_now 76 = .ok (.aload_n 0, 1) := by decide +kernel
theorem dX4_now_77 : decode cX4_now 77 = .ok (.getfield 28, 3) := by decide +kernel
theorem dX4_now_80 : decode cX4_now 80 = .ok (.invokevirtual 134, 3) := by decide +kernel
theorem dX4_now_83 : decode cX4_now 83 = .ok (.ireturn, 1) := by decide +kernel
theorem dX4_now_84 : decode cX4_now 84 = .ok (.aload_n 0, 1) := by decide +kernel
theorem dX4_now_85 : decode cX4_now 85 = .ok (.getfield 35, 3) := by decide +kernel
theorem dX4_now_88 : decode cX4_now 88 = .ok (.aload_n 0, 1) := by decide +kernel
theorem dX4_now_89 : decode cX4_now 89 = .ok (.getfield 28, 3) := by decide +kernel
theorem dX4_now_92 : decode cX4_now 92 = .ok (.invokevirtual 137, 3) := by decide +kernel
theorem dX4_now_95 : decode cX4_now 95 = .ok (.ireturn, 1) := by decide +kernel
theorem dX4_now_96 : decode cX4_now 96 = .ok (.aload_n 0, 1) := by decide +kernel
theorem dX4_now_97 : decode cX4_now 97 = .ok (.getfield 91, 3) := by decide +kernel
theorem dX4_now_100 : decode cX4_now 100 = .ok (.ireturn, 1) := by decide +kernel
theorem dX4_now_101 : decode cX4_now 101 = .ok (.iconst (-1), 1) := by decide +kernel
theorem dX4_now_102 : decode cX4_now 102 = .ok (.ireturn, 1) := by decide +kernel
theorem dX4_blows_0 : decode cX4_blows 0 = .ok (.aload_n 0, 1) := by decide +kernel
theorem dX4_blows_1 : decode cX4_blows 1 = .ok (.iload_n 1, 1) := by decide +kernel
theorem dX4_blows_2 : decode cX4_blows 2 = .ok (.invokevirtual 115, 3) := by decide +kernel
theorem dX4_blows_5 : decode cX4_blows 5 = .ok (.ifCond .eq 10, 3) := by decide +kernel
theorem dX4_blows_8 : decode cX4_blows 8 = .ok (.iload_n 2, 1) := by decide +kernel
theorem dX4_blows_9 : decode cX4_blows 9 = .ok (.invokestatic 141, 3) := by decide +kernel
theorem dX4_blows_12 : decode cX4_blows 12 = .ok (.ifCond .ne 5, 3) := by decide +kernel
theorem dX4_blows_15 : decode cX4_blows 15 = .ok (.iconst (-1), 1) := by decide +kernel
theorem dX4_blows_16 : decode cX4_blows 16 = .ok (.ireturn, 1) := by decide +kernel
theorem dX4_blows_17 : decode cX4_blows 17 = .ok (.aload_n 0, 1) := by decide +kernel
theorem dX4_blows_18 : decode cX4_blows 18 = .ok (.getfield 28, 3) := by decide +kernel
theorem dX4_blows_21 : decode cX4_blows 21 = .ok (.getfield 122, 3) := by decide +kernel
theorem dX4_blows_24 : decode cX4_blows 24 = .ok (.sipush 999, 3) := by decide +kernel
theorem dX4_blows_27 : decode cX4_blows 27 = .ok (.if_icmp .lt 6, 3) := by decide +kernel
theorem dX4_blows_30 : decode cX4_blows 30 = .ok (.bipush (-2), 2) := by decide +kernel
theorem dX4_blows_32 : decode cX4_blows 32 = .ok (.ireturn, 1) := by decide +kernel
theorem dX4_blows_33 : decode cX4_blows 33 = .ok (.aload_n 0, 1) := by decide +kernel
theorem dX4_blows_34 : decode cX4_blows 34 = .ok (.invokevirtual 144, 3) := by decide +kernel
theorem dX4_blows_37 : decode cX4_blows 37 = .ok (.aload_n 0, 1) := by decide +kernel
theorem dX4_blows_38 : decode cX4_blows 38 = .ok (.getfield 28, 3) := by decide +kernel
theorem dX4_blows_41 : decode cX4_blows 41 = .ok (.iload_n 1, 1) := by decide +kernel
theorem dX4_blows_42 : decode cX4_blows 42 = .ok (.iload_n 2, 1) := by decide +kernel
theorem dX4_blows_43 : decode cX4_blows 43 = .ok (.invokevirtual 147, 3) := by decide +kernel
theorem dX4_blows_46 : decode cX4_blows 46 = .ok (.ireturn, 1) := by decide +kernel
theorem dX4_calms_0 : decode cX4_calms 0 = .ok (.aload_n 0, 1) := by decide +kernel
theorem dX4_calms_1 : decode cX4_calms 1 = .ok (.getfield 19, 3) := by decide +kernel
theorem dX4_calms_4 : decode cX4_calms 4 = .ok (.getfield 151, 3) := by decide +kernel
theorem dX4_calms_7 : decode cX4_calms 7 = .ok (.ifCond .eq 16, 3) := by decide +kernel
theorem dX4_calms_10 : decode cX4_calms 10 = .ok (.aload_n 0, 1) := by decide +kernel
theorem dX4_calms_11 : decode cX4_calms 11 = .ok (.getfield 28, 3) := by decide +kernel
theorem dX4_calms_14 : decode cX4_calms 14 = .ok (.getfield 122, 3) := by decide +kernel
theorem dX4_calms_17 : decode cX4_calms 17 = .ok (.sipush 999, 3) := by decide +kernel
theorem dX4_calms_20 : decode cX4_calms 20 = .ok (.if_icmp .lt 6, 3) := by decide +kernel
theorem dX4_calms_23 : decode cX4_calms 23 = .ok (.bipush (-2), 2) := by decide +kernel
theorem dX4_calms_25 : decode cX4_calms 25 = .ok (.ireturn, 1) := by decide +kernel
theorem dX4_calms_26 : decode cX4_calms 26 = .ok (.aload_n 0, 1) := by decide +kernel
theorem dX4_calms_27 : decode cX4_calms 27 = .ok (.invokevirtual 144, 3) := by decide +kernel
theorem dX4_calms_30 : decode cX4_calms 30 = .ok (.aload_n 0, 1) := by decide +kernel
theorem dX4_calms_31 : decode cX4_calms 31 = .ok (.getfield 28, 3) := by decide +kernel
theorem dX4_calms_34 : decode cX4_calms 34 = .ok (.invokevirtual 154, 3) := by decide +kernel
theorem dX4_calms_37 : decode cX4_calms 37 = .ok (.ireturn, 1) := by decide +kernel
theorem dX4_changes_0 : decode cX4_changes 0 = .ok (.aload_n 0, 1) := by decide +kernel
theorem dX4_changes_1 : decode cX4_changes 1 = .ok (.getfield 19, 3) := by decide +kernel
theorem dX4_changes_4 : decode cX4_changes 4 = .ok (.iload_n 1, 1) := by decide +kernel
theorem dX4_changes_5 : decode cX4_changes 5 = .ok (.invokevirtual 97, 3) := by decide +kernel
theorem dX4_changes_8 : decode cX4_changes 8 = .ok (.ifCond .eq 19, 3) := by decide +kernel
theorem dX4_changes_11 : decode cX4_changes 11 = .ok (.aload_n 0, 1) := by decide +kernel
theorem dX4_changes_12 : decode cX4_changes 12 = .ok (.getfield 19, 3) := by decide +kernel
theorem dX4_changes_15 : decode cX4_changes 15 = .ok (.iload_n 2, 1) := by decide +kernel
theorem dX4_changes_16 : decode cX4_changes 16 = .ok (.invokevirtual 97, 3) := by decide +kernel
theorem dX4_changes_19 : decode cX4_changes 19 = .ok (.ifCond .eq 8, 3) := by decide +kernel
theorem dX4_changes_22 : decode cX4_changes 22 = .ok (.iload_n 1, 1) := by decide +kernel
theorem dX4_changes_23 : decode cX4_changes 23 = .ok (.iload_n 2, 1) := by decide +kernel
theorem dX4_changes_24 : decode cX4_changes 24 = .ok (.if_icmp .ne 5, 3) := by decide +kernel
theorem dX4_changes_27 : decode cX4_changes 27 = .ok (.iconst (-1), 1) := by decide +kernel
theorem dX4_changes_28 : decode cX4_changes 28 = .ok (.ireturn, 1) := by decide +kernel
theorem dX4_changes_29 : decode cX4_changes 29 = .ok (.aload_n 0, 1) := by decide +kernel
theorem dX4_changes_30 : decode cX4_changes 30 = .ok (.invokevirtual 144, 3) := by decide +kernel
theorem dX4_changes_33 : decode cX4_changes 33 = .ok (.aload_n 0, 1) := by decide +kernel
theorem dX4_changes_34 : decode cX4_changes 34 = .ok (.getfield 28, 3) := by decide +kernel
theorem dX4_changes_37 : decode cX4_changes 37 = .ok (.iload_n 1, 1) := by decide +kernel
theorem dX4_changes_38 : decode cX4_changes 38 = .ok (.iload_n 2, 1) := by decide +kernel
theorem dX4_changes_39 : decode cX4_changes 39 = .ok (.invokevirtual 157, 3) := by decide +kernel
theorem dX4_changes_42 : decode cX4_changes 42 = .ok (.aload_n 0, 1) := by decide +kernel
theorem dX4_changes_43 : decode cX4_changes 43 = .ok (.getfield 28, 3) := by decide +kernel
theorem dX4_changes_46 : decode cX4_changes 46 = .ok (.invokevirtual 134, 3) := by decide +kernel
theorem dX4_changes_49 : decode cX4_changes 49 = .ok (.ireturn, 1) := by decide +kernel
theorem dX4_holds_0 : decode cX4_holds 0 = .ok (.aload_n 0, 1) := by decide +kernel
theorem dX4_holds_1 : decode cX4_holds 1 = .ok (.getfield 19, 3) := by decide +kernel
theorem dX4_holds_4 : decode cX4_holds 4 = .ok (.iload_n 1, 1) := by decide +kernel
theorem dX4_holds_5 : decode cX4_holds 5 = .ok (.invokevirtual 97, 3) := by decide +kernel
theorem dX4_holds_8 : decode cX4_holds 8 = .ok (.ifCond .ne 5, 3) := by decide +kernel
theorem dX4_holds_11 : decode cX4_holds 11 = .ok (.iconst (-1), 1) := by decide +kernel
theorem dX4_holds_12 : decode cX4_holds 12 = .ok (.ireturn, 1) := by decide +kernel
theorem dX4_holds_13 : decode cX4_holds 13 = .ok (.aload_n 0, 1) := by decide +kernel
theorem dX4_holds_14 : decode cX4_holds 14 = .ok (.getfield 28, 3) := by decide +kernel
theorem dX4_holds_17 : decode cX4_holds 17 = .ok (.getfield 112, 3) := by decide +kernel
theorem dX4_holds_20 : decode cX4_holds 20 = .ok (.iload_n 1, 1) := by decide +kernel
theorem dX4_holds_21 : decode cX4_holds 21 = .ok (.iaload, 1) := by decide +kernel
theorem dX4_holds_22 : decode cX4_holds 22 = .ok (.istore_n 2, 1) := by decide +kernel
theorem dX4_holds_23 : decode cX4_holds 23 = .ok (.iload_n 2, 1) := by decide +kernel
theorem dX4_holds_24 : decode cX4_holds 24 = .ok (.ifCond .ne 6, 3) := by decide +kernel
theorem dX4_holds_27 : decode cX4_holds 27 = .ok (.bipush (-2), 2) := by decide +kernel
theorem dX4_holds_29 : decode cX4_holds 29 = .ok (.ireturn, 1) := by decide +kernel
theorem dX4_holds_30 : decode cX4_holds 30 = .ok (.aload_n 0, 1) := by decide +kernel
theorem dX4_holds_31 : decode cX4_holds 31 = .ok (.invokevirtual 144, 3) := by decide +kernel
theorem dX4_holds_34 : decode cX4_holds 34 = .ok (.aload_n 0, 1) := by decide +kernel
theorem dX4_holds_35 : decode cX4_holds 35 = .ok (.getfield 28, 3) := by decide +kernel
theorem dX4_holds_38 : decode cX4_holds 38 = .ok (.getfield 112, 3) := by decide +kernel
theorem dX4_holds_41 : decode cX4_holds 41 = .ok (.iload_n 1, 1) := by decide +kernel
theorem dX4_holds_42 : decode cX4_holds 42 = .ok (.iconst 0, 1) := by decide +kernel
theorem dX4_holds_43 : decode cX4_holds 43 = .ok (.iastore, 1) := by decide +kernel
theorem dX4_holds_44 : decode cX4_holds 44 = .ok (.iload_n 2, 1) := by decide +kernel
theorem dX4_holds_45 : decode cX4_holds 45 = .ok (.ireturn, 1) := by decide +kernel
theorem dX4_undo_0 : decode cX4_undo 0 = .ok (.aload_n 0, 1) := by decide +kernel
theorem dX4_undo_1 : decode cX4_undo 1 = .ok (.getfield 91, 3) := by decide +kernel
theorem dX4_undo_4 : decode cX4_undo 4 = .ok (.ifCond .ne 6, 3) := by decide +kernel
theorem dX4_undo_7 : decode cX4_undo 7 = .ok (.bipush (-2), 2) := by decide +kernel
theorem dX4_undo_9 : decode cX4_undo 9 = .ok (.ireturn, 1) := by decide +kernel
theorem dX4_undo_10 : decode cX4_undo 10 = .ok (.aload_n 0, 1) := by decide +kernel
theorem dX4_undo_11 : decode cX4_undo 11 = .ok (.dup, 1) := by decide +kernel
theorem dX4_undo_12 : decode cX4_undo 12 = .ok (.getfield 91, 3) := by decide +kernel
theorem dX4_undo_15 : decode cX4_undo 15 = .ok (.iconst 1, 1) := by decide +kernel
theorem dX4_undo_16 : decode cX4_undo 16 = .ok (.isub, 1) := by decide +kernel
theorem dX4_undo_17 : decode cX4_undo 17 = .ok (.putfield 91, 3) := by decide +kernel
theorem dX4_undo_20 : decode cX4_undo 20 = .ok (.aload_n 0, 1) := by decide +kernel
theorem dX4_undo_21 : decode cX4_undo 21 = .ok (.aload_n 0, 1) := by decide +kernel
theorem dX4_undo_22 : decode cX4_undo 22 = .ok (.getfield 161, 3) := by decide +kernel
theorem dX4_undo_25 : decode cX4_undo 25 = .ok (.ifCond .le 12, 3) := by decide +kernel
theorem dX4_undo_28 : decode cX4_undo 28 = .ok (.aload_n 0, 1) := by decide +kernel
theorem dX4_undo_29 : decode cX4_undo 29 = .ok (.getfield 161, 3) := by decide +kernel
theorem dX4_undo_32 : decode cX4_undo 32 = .ok (.iconst 1, 1) := by decide +kernel
theorem dX4_undo_33 : decode cX4_undo 33 = .ok (.isub, 1) := by decide +kernel
theorem dX4_undo_34 : decode cX4_undo 34 = .ok (.goto 5, 3) := by decide +kernel
theorem dX4_undo_37 : decode cX4_undo 37 = .ok (.bipush 9, 2) := by decide +kernel
theorem dX4_undo_39 : decode cX4_undo 39 = .ok (.putfield 161, 3) := by decide +kernel
theorem dX4_undo_42 : decode cX4_undo 42 = .ok (.aload_n 0, 1) := by decide +kernel
theorem dX4_undo_43 : decode cX4_undo 43 = .ok (.getfield 28, 3) := by decide +kernel
theorem dX4_undo_46 : decode cX4_undo 46 = .ok (.aload_n 0, 1) := by decide +kernel
theorem dX4_undo_47 : decode cX4_undo 47 = .ok (.getfield 39, 3) := by decide +kernel
theorem dX4_undo_50 : decode cX4_undo 50 = .ok (.aload_n 0, 1) := by decide +kernel
theorem dX4_undo_51 : decode cX4_undo 51 = .ok (.getfield 161, 3) := by decide +kernel
theorem dX4_undo_54 : decode cX4_undo 54 = .ok (.aaload, 1) := by decide +kernel
theorem dX4_undo_55 : decode cX4_undo 55 = .ok (.invokevirtual 164, 3) := by decide +kernel
theorem dX4_undo_58 : decode cX4_undo 58 = .ok (.aload_n 0, 1) := by decide +kernel
theorem dX4_undo_59 : decode cX4_undo 59 = .ok (.getfield 91, 3) := by decide +kernel
theorem dX4_undo_62 : decode cX4_undo 62 = .ok (.ireturn, 1) := by decide +kernel
theorem dX4_remember_0 : decode cX4_remember 0 = .ok (.aload_n 0, 1) := by decide +kernel
theorem dX4_remember_1 : decode cX4_remember 1 = .ok (.getfield 39, 3) := by decide +kernel
theorem dX4_remember_4 : decode cX4_remember 4 = .ok (.aload_n 0, 1) := by decide +kernel
theorem dX4_remember_5 : decode cX4_remember 5 = .ok (.getfield 161, 3) := by decide +kernel
theorem dX4_remember_8 : decode cX4_remember 8 = .ok (.aaload, 1) := by decide +kernel
theorem dX4_remember_9 : decode cX4_remember 9 = .ok (.aload_n 0, 1) := by decide +kernel
theorem dX4_remember_10 : decode cX4_remember 10 = .ok (.getfield 28, 3) := by decide +kernel
theorem dX4_remember_13 : decode cX4_remember 13 = .ok (.invokevirtual 164, 3) := by decide +kernel
theorem dX4_remember_16 : decode cX4_remember 16 = .ok (.aload_n 0, 1) := by decide +kernel
theorem dX4_remember_17 : decode cX4_remember 17 = .ok (.aload_n 0, 1) := by decide +kernel
theorem dX4_remember_18 : decode cX4_remember 18 = .ok (.getfield 161, 3) := by decide +kernel
theorem dX4_remember_21 : decode cX4_remember 21 = .ok (.bipush 9, 2) := by decide +kernel
theorem dX4_remember_23 : decode cX4_remember 23 = .ok (.if_icmp .ge 12, 3) := by decide +kernel
theorem dX4_remember_26 : decode cX4_remember 26 = .ok (.aload_n 0, 1) := by decide +kernel
theorem dX4_remember_27 : decode cX4_remember 27 = .ok (.getfield 161, 3) := by decide +kernel
theorem dX4_remember_30 : decode cX4_remember 30 = .ok (.iconst 1, 1) := by decide +kernel
theorem dX4_remember_31 : decode cX4_remember 31 = .ok (.iadd, 1) := by decide +kernel
theorem dX4_remember_32 : decode cX4_remember 32 = .ok (.goto 4, 3) := by decide +kernel
theorem dX4_remember_35 : decode cX4_remember 35 = .ok (.iconst 0, 1) := by decide +kernel
theorem dX4_remember_36 : decode cX4_remember 36 = .ok (.putfield 161, 3) := by decide +kernel
theorem dX4_remember_39 : decode cX4_remember 39 = .ok (.aload_n 0, 1) := by decide +kernel
theorem dX4_remember_40 : decode cX4_remember 40 = .ok (.aload_n 0, 1) := by decide +kernel
theorem dX4_remember_41 : decode cX4_remember 41 = .ok (.getfield 91, 3) := by decide +kernel
theorem dX4_remember_44 : decode cX4_remember 44 = .ok (.iconst 1, 1) := by decide +kernel
theorem dX4_remember_45 : decode cX4_remember 45 = .ok (.iadd, 1) := by decide +kernel
theorem dX4_remember_46 : decode cX4_remember 46 = .ok (.bipush 10, 2) := by decide +kernel
theorem dX4_remember_48 : decode cX4_remember 48 = .ok (.invokestatic 168, 3) := by decide +kernel
theorem dX4_remember_51 : decode cX4_remember 51 = .ok (.putfield 91, 3) := by decide +kernel
theorem dX4_remember_54 : decode cX4_remember 54 = .ok (.return_, 1) := by decide +kernel
theorem dX4_comes_0 : decode cX4_comes 0 = .ok (.iload_n 1, 1) := by decide +kernel
theorem dX4_comes_1 : decode cX4_comes 1 = .ok (.invokestatic 173, 3) := by decide +kernel
theorem dX4_comes_4 : decode cX4_comes 4 = .ok (.ifCond .eq 12, 3) := by decide +kernel
theorem dX4_comes_7 : decode cX4_comes 7 = .ok (.iload_n 2, 1) := by decide +kernel
theorem dX4_comes_8 : decode cX4_comes 8 = .ok (.iconst 0, 1) := by decide +kernel
theorem dX4_comes_9 : decode cX4_comes 9 = .ok (.iconst 1, 1) := by decide +kernel
theorem dX4_comes_10 : decode cX4_comes 10 = .ok (.invokestatic 63, 3) := by decide +kernel
theorem dX4_comes_13 : decode cX4_comes 13 = .ok (.ifCond .ne 5, 3) := by decide +kernel
theorem dX4_comes_16 : decode cX4_comes 16 = .ok (.iconst (-1), 1) := by decide +kernel
theorem dX4_comes_17 : decode cX4_comes 17 = .ok (.ireturn, 1) := by decide +kernel
theorem dX4_comes_18 : decode cX4_comes 18 = .ok (.aload_n 0, 1) := by decide +kernel
theorem dX4_comes_19 : decode cX4_comes 19 = .ok (.getfield 35, 3) := by decide +kernel
theorem dX4_comes_22 : decode cX4_comes 22 = .ok (.aload_n 0, 1) := by decide +kernel
theorem dX4_comes_23 : decode cX4_comes 23 = .ok (.getfield 28, 3) := by decide +kernel
theorem dX4_comes_26 : decode cX4_comes 26 = .ok (.invokevirtual 176, 3) := by decide +kernel
theorem dX4_comes_29 : decode cX4_comes 29 = .ok (.aload_n 0, 1) := by decide +kernel
theorem dX4_comes_30 : decode cX4_comes 30 = .ok (.getfield 35, 3) := by decide +kernel
theorem dX4_comes_33 : decode cX4_comes 33 = .ok (.bipush (-9), 2) := by decide +kernel
theorem dX4_comes_35 : decode cX4_comes 35 = .ok (.invokevirtual 178, 3) := by decide +kernel
theorem dX4_comes_38 : decode cX4_comes 38 = .ok (.aload_n 0, 1) := by decide +kernel
theorem dX4_comes_39 : decode cX4_comes 39 = .ok (.getfield 35, 3) := by decide +kernel
theorem dX4_comes_42 : decode cX4_comes 42 = .ok (.iload_n 1, 1) := by decide +kernel
theorem dX4_comes_43 : decode cX4_comes 43 = .ok (.invokevirtual 182, 3) := by decide +kernel
theorem dX4_comes_46 : decode cX4_comes 46 = .ok (.iload_n 2, 1) := by decide +kernel
theorem dX4_comes_47 : decode cX4_comes 47 = .ok (.ifCond .ne 13, 3) := by decide +kernel
theorem dX4_comes_50 : decode cX4_comes 50 = .ok (.aload_n 0, 1) := by decide +kernel
theorem dX4_comes_51 : decode cX4_comes 51 = .ok (.getfield 35, 3) := by decide +kernel
theorem dX4_comes_54 : decode cX4_comes 54 = .ok (.getfield 185, 3) := by decide +kernel
theorem dX4_comes_57 : decode cX4_comes 57 = .ok (.goto 10, 3) := by decide +kernel
theorem dX4_comes_60 : decode cX4_comes 60 = .ok (.aload_n 0, 1) := by decide +kernel
theorem dX4_comes_61 : decode cX4_comes 61 = .ok (.getfield 35, 3) := by decide +kernel
theorem dX4_comes_64 : decode cX4_comes 64 = .ok (.getfield 188, 3) := by decide +kernel
theorem dX4_comes_67 : decode cX4_comes 67 = .ok (.ireturn, 1) := by decide +kernel
theorem dX4_best_0 : decode cX4_best 0 = .ok (.iload_n 1, 1) := by decide +kernel
theorem dX4_best_1 : decode cX4_best 1 = .ok (.invokestatic 173, 3) := by decide +kernel
theorem dX4_best_4 : decode cX4_best 4 = .ok (.ifCond .eq 12, 3) := by decide +kernel
theorem dX4_best_7 : decode cX4_best 7 = .ok (.iload_n 2, 1) := by decide +kernel
theorem dX4_best_8 : decode cX4_best 8 = .ok (.iconst 0, 1) := by decide +kernel
theorem dX4_best_9 : decode cX4_best 9 = .ok (.iconst 1, 1) := by decide +kernel
theorem dX4_best_10 : decode cX4_best 10 = .ok (.invokestatic 63, 3) := by decide +kernel
theorem dX4_best_13 : decode cX4_best 13 = .ok (.ifCond .ne 5, 3) := by decide +kernel
theorem dX4_best_16 : decode cX4_best 16 = .ok (.iconst (-1), 1) := by decide +kernel
theorem dX4_best_17 : decode cX4_best 17 = .ok (.ireturn, 1) := by decide +kernel
theorem dX4_best_18 : decode cX4_best 18 = .ok (.bipush (-9), 2) := by decide +kernel
theorem dX4_best_20 : decode cX4_best 20 = .ok (.istore_n 3, 1) := by decide +kernel
theorem dX4_best_21 : decode cX4_best 21 = .ok (.sipush (-1000), 3) := by decide +kernel
theorem dX4_best_24 : decode cX4_best 24 = .ok (.istore 4, 2) := by decide +kernel
theorem dX4_best_26 : decode cX4_best 26 = .ok (.iconst 0, 1) := by decide +kernel
theorem dX4_best_27 : decode cX4_best 27 = .ok (.istore 5, 2) := by decide +kernel
theorem dX4_best_29 : decode cX4_best 29 = .ok (.iload 5, 2) := by decide +kernel
theorem dX4_best_31 : decode cX4_best 31 = .ok (.aload_n 0, 1) := by decide +kernel
theorem dX4_best_32 : decode cX4_best 32 = .ok (.getfield 19, 3) := by decide +kernel
theorem dX4_best_35 : decode cX4_best 35 = .ok (.getfield 151, 3) := by decide +kernel
theorem dX4_best_38 : decode cX4_best 38 = .ok (.if_icmp .ge 76, 3) := by decide +kernel
theorem dX4_best_41 : decode cX4_best 41 = .ok (.iconst 1, 1) := by decide +kernel
theorem dX4_best_42 : decode cX4_best 42 = .ok (.istore 6, 2) := by decide +kernel
theorem dX4_best_44 : decode cX4_best 44 = .ok (.iload 6, 2) := by decide +kernel
theorem dX4_best_46 : decode cX4_best 46 = .ok (.bipush 9, 2) := by decide +kernel
theorem dX4_best_48 : decode cX4_best 48 = .ok (.if_icmp .gt 60, 3) := by decide +kernel
theorem dX4_best_51 : decode cX4_best 51 = .ok (.aload_n 0, 1) := by decide +kernel
theorem dX4_best_52 : decode cX4_best 52 = .ok (.iload 5, 2) := by decide +kernel
theorem dX4_best_54 : decode cX4_best 54 = .ok (.iload 6, 2) := by decide +kernel
theorem dX4_best_56 : decode cX4_best 56 = .ok (.iload_n 1, 1) := by decide +kernel
theorem dX4_best_57 : decode cX4_best 57 = .ok (.invokevirtual 191, 3) := by decide +kernel
theorem dX4_best_60 : decode cX4_best 60 = .ok (.iload_n 2, 1) := by decide +kernel
theorem dX4_best_61 : decode cX4_best 61 = .ok (.ifCond .ne 13, 3) := by decide +kernel
theorem dX4_best_64 : decode cX4_best 64 = .ok (.aload_n 0, 1) := by decide +kernel
theorem dX4_best_65 : decode cX4_best 65 = .ok (.getfield 35, 3) := by decide +kernel
theorem dX4_best_68 : decode cX4_best 68 = .ok (.invokevirtual 195, 3) := by decide +kernel
theorem dX4_best_71 : decode cX4_best 71 = .ok (.goto 10, 3) := by decide +kernel
theorem dX4_best_74 : decode cX4_best 74 = .ok (.aload_n 0, 1) := by decide +kernel
theorem dX4_best_75 : decode cX4_best 75 = .ok (.getfield 35, 3) := by decide +kernel
theorem dX4_best_78 : decode cX4_best 78 = .ok (.invokevirtual 198, 3) := by decide +kernel
theorem dX4_best_81 : decode cX4_best 81 = .ok (.istore 7, 2) := by decide +kernel
theorem dX4_best_83 : decode cX4_best 83 = .ok (.iload 7, 2) := by decide +kernel
theorem dX4_best_85 : decode cX4_best 85 = .ok (.iload 4, 2) := by decide +kernel
theorem dX4_best_87 : decode cX4_best 87 = .ok (.if_icmp .le 15, 3) := by decide +kernel
theorem dX4_best_90 : decode cX4_best 90 = .ok (.iload 5, 2) := by decide +kernel
theorem dX4_best_92 : decode cX4_best 92 = .ok (.iload 6, 2) := by decide +kernel
theorem dX4_best_94 : decode cX4_best 94 = .ok (.invokestatic 201, 3) := by decide +kernel
theorem dX4_best_97 : decode cX4_best 97 = .ok (.istore_n 3, 1) := by decide +kernel
theorem dX4_best_98 : decode cX4_best 98 = .ok (.iload 7, 2) := by decide +kernel
theorem dX4_best_100 : decode cX4_best 100 = .ok (.istore 4, 2) := by decide +kernel
theorem dX4_best_102 : decode cX4_best 102 = .ok (.iinc 6 1, 3) := by decide +kernel
theorem dX4_best_105 : decode cX4_best 105 = .ok (.goto (-61), 3) := by decide +kernel
theorem dX4_best_108 : decode cX4_best 108 = .ok (.iinc 5 1, 3) := by decide +kernel
theorem dX4_best_111 : decode cX4_best 111 = .ok (.goto (-82), 3) := by decide +kernel
theorem dX4_best_114 : decode cX4_best 114 = .ok (.iload_n 3, 1) := by decide +kernel
theorem dX4_best_115 : decode cX4_best 115 = .ok (.ireturn, 1) := by decide +kernel
theorem dX4_swap_0 : decode cX4_swap 0 = .ok (.aload_n 0, 1) := by decide +kernel
theorem dX4_swap_1 : decode cX4_swap 1 = .ok (.iload_n 1, 1) := by decide +kernel
theorem dX4_swap_2 : decode cX4_swap 2 = .ok (.invokevirtual 115, 3) := by decide +kernel
theorem dX4_swap_5 : decode cX4_swap 5 = .ok (.ifCond .eq 17, 3) := by decide +kernel
theorem dX4_swap_8 : decode cX4_swap 8 = .ok (.iload_n 2, 1) := by decide +kernel
theorem dX4_swap_9 : decode cX4_swap 9 = .ok (.invokestatic 141, 3) := by decide +kernel
theorem dX4_swap_12 : decode cX4_swap 12 = .ok (.ifCond .eq 10, 3) := by decide +kernel
theorem dX4_swap_15 : decode cX4_swap 15 = .ok (.iload_n 3, 1) := by decide +kernel
theorem dX4_swap_16 : decode cX4_swap 16 = .ok (.invokestatic 173, 3) := by decide +kernel
theorem dX4_swap_19 : decode cX4_swap 19 = .ok (.ifCond .ne 5, 3) := by decide +kernel
theorem dX4_swap_22 : decode cX4_swap 22 = .ok (.iconst (-1), 1) := by decide +kernel
theorem dX4_swap_23 : decode cX4_swap 23 = .ok (.ireturn, 1) := by decide +kernel
theorem dX4_swap_24 : decode cX4_swap 24 = .ok (.aload_n 0, 1) := by decide +kernel
theorem dX4_swap_25 : decode cX4_swap 25 = .ok (.iload_n 1, 1) := by decide +kernel
theorem dX4_swap_26 : decode cX4_swap 26 = .ok (.iload_n 2, 1) := by decide +kernel
theorem dX4_swap_27 : decode cX4_swap 27 = .ok (.iload_n 3, 1) := by decide +kernel
theorem dX4_swap_28 : decode cX4_swap 28 = .ok (.invokevirtual 191, 3) := by decide +kernel
theorem dX4_swap_31 : decode cX4_swap 31 = .ok (.aload_n 0, 1) := by decide +kernel
theorem dX4_swap_32 : decode cX4_swap 32 = .ok (.getfield 35, 3) := by decide +kernel
theorem dX4_swap_35 : decode cX4_swap 35 = .ok (.getfield 188, 3) := by decide +kernel
theorem dX4_swap_38 : decode cX4_swap 38 = .ok (.istore 4, 2) := by decide +kernel
theorem dX4_swap_40 : decode cX4_swap 40 = .ok (.bipush (-9), 2) := by decide +kernel
theorem dX4_swap_42 : decode cX4_swap 42 = .ok (.istore 5, 2) := by decide +kernel
theorem dX4_swap_44 : decode cX4_swap 44 = .ok (.iconst 0, 1) := by decide +kernel
theorem dX4_swap_45 : decode cX4_swap 45 = .ok (.istore 6, 2) := by decide +kernel
theorem dX4_swap_47 : decode cX4_swap 47 = .ok (.iload 6, 2) := by decide +kernel
theorem dX4_swap_49 : decode cX4_swap 49 = .ok (.aload_n 0, 1) := by decide +kernel
theorem dX4_swap_50 : decode cX4_swap 50 = .ok (.getfield 19, 3) := by decide +kernel
theorem dX4_swap_53 : decode cX4_swap 53 = .ok (.getfield 151, 3) := by decide +kernel
theorem dX4_swap_56 : decode cX4_swap 56 = .ok (.if_icmp .ge 75, 3) := by decide +kernel
theorem dX4_swap_59 : decode cX4_swap 59 = .ok (.iload 6, 2) := by decide +kernel
theorem dX4_swap_61 : decode cX4_swap 61 = .ok (.iconst 1, 1) := by decide +kernel
theorem dX4_swap_62 : decode cX4_swap 62 = .ok (.iadd, 1) := by decide +kernel
theorem dX4_swap_63 : decode cX4_swap 63 = .ok (.istore 7, 2) := by decide +kernel
theorem dX4_swap_65 : decode cX4_swap 65 = .ok (.iload 7, 2) := by decide +kernel
theorem dX4_swap_67 : decode cX4_swap 67 = .ok (.aload_n 0, 1) := by decide +kernel
theorem dX4_swap_68 : decode cX4_swap 68 = .ok (.getfield 19, 3) := by decide +kernel
theorem dX4_swap_71 : decode cX4_swap 71 = .ok (.getfield 151, 3) := by decide +kernel
theorem dX4_swap_74 : decode cX4_swap 74 = .ok (.if_icmp .ge 51, 3) := by decide +kernel
theorem dX4_swap_77 : decode cX4_swap 77 = .ok (.aload_n 0, 1) := by decide +kernel
theorem dX4_swap_78 : decode cX4_swap 78 = .ok (.iload 6, 2) := by decide +kernel
theorem dX4_swap_80 : decode cX4_swap 80 = .ok (.iload 7, 2) := by decide +kernel
theorem dX4_swap_82 : decode cX4_swap 82 = .ok (.iload_n 1, 1) := by decide +kernel
theorem dX4_swap_83 : decode cX4_swap 83 = .ok (.iload_n 2, 1) := by decide +kernel
theorem dX4_swap_84 : decode cX4_swap 84 = .ok (.iload_n 3, 1) := by decide +kernel
theorem dX4_swap_85 : decode cX4_swap 85 = .ok (.invokevirtual 204, 3) := by decide +kernel
theorem dX4_swap_88 : decode cX4_swap 88 = .ok (.aload_n 0, 1) := by decide +kernel
theorem dX4_swap_89 : decode cX4_swap 89 = .ok (.getfield 35, 3) := by decide +kernel
theorem dX4_swap_92 : decode cX4_swap 92 = .ok (.getfield 188, 3) := by decide +kernel
theorem dX4_swap_95 : decode cX4_swap 95 = .ok (.iload 4, 2) := by decide +kernel
theorem dX4_swap_97 : decode cX4_swap 97 = .ok (.if_icmp .ge 22, 3) := by decide +kernel
theorem dX4_swap_100 : decode cX4_swap 100 = .ok (.bipush 10, 2) := by decide +kernel
theorem dX4_swap_102 : decode cX4_swap 102 = .ok (.iload 6, 2) := by decide +kernel
theorem dX4_swap_104 : decode cX4_swap 104 = .ok (.imul, 1) := by decide +kernel
theorem dX4_swap_105 : decode cX4_swap 105 = .ok (.iload 7, 2) := by decide +kernel
theorem dX4_swap_107 : decode cX4_swap 107 = .ok (.iadd, 1) := by decide +kernel
theorem dX4_swap_108 : decode cX4_swap 108 = .ok (.istore 5, 2) := by decide +kernel
theorem dX4_swap_110 : decode cX4_swap 110 = .ok (.aload_n 0, 1) := by decide +kernel
theorem dX4_swap_111 : decode cX4_swap 111 = .ok (.getfield 35, 3) := by decide +kernel
theorem dX4_swap_114 : decode cX4_swap 114 = .ok (.getfield 188, 3) := by decide +kernel
theorem dX4_swap_117 : decode cX4_swap 117 = .ok (.istore 4, 2) := by decide +kernel
theorem dX4_swap_119 : decode cX4_swap 119 = .ok (.iinc 7 1, 3) := by decide +kernel
theorem dX4_swap_122 : decode cX4_swap 122 = .ok (.goto (-57), 3) := by decide +kernel
theorem dX4_swap_125 : decode cX4_swap 125 = .ok (.iinc 6 1, 3) := by decide +kernel
theorem dX4_swap_128 : decode cX4_swap 128 = .ok (.goto (-81), 3) := by decide +kernel
theorem dX4_swap_131 : decode cX4_swap 131 = .ok (.iload 5, 2) := by decide +kernel
theorem dX4_swap_133 : decode cX4_swap 133 = .ok (.ireturn, 1) := by decide +kernel
theorem dX4_odds_0 : decode cX4_odds 0 = .ok (.iload_n 1, 1) := by decide +kernel
theorem dX4_odds_1 : decode cX4_odds 1 = .ok (.invokestatic 141, 3) := by decide +kernel
theorem dX4_odds_4 : decode cX4_odds 4 = .ok (.ifCond .eq 31, 3) := by decide +kernel
theorem dX4_odds_7 : decode cX4_odds 7 = .ok (.iload_n 2, 1) := by decide +kernel
theorem dX4_odds_8 : decode cX4_odds 8 = .ok (.invokestatic 173, 3) := by decide +kernel
theorem dX4_odds_11 : decode cX4_odds 11 = .ok (.ifCond .eq 24, 3) := by decide +kernel
theorem dX4_odds_14 : decode cX4_odds 14 = .ok (.aload_n 0, 1) := by decide +kernel
theorem dX4_odds_15 : decode cX4_odds 15 = .ok (.getfield 19, 3) := by decide +kernel
theorem dX4_odds_18 : decode cX4_odds 18 = .ok (.iload_n 3, 1) := by decide +kernel
theorem dX4_odds_19 : decode cX4_odds 19 = .ok (.invokevirtual 97, 3) := by decide +kernel
theorem dX4_odds_22 : decode cX4_odds 22 = .ok (.ifCond .eq 13, 3) := by decide +kernel
theorem dX4_odds_25 : decode cX4_odds 25 = .ok (.iload 4, 2) := by decide +kernel
theorem dX4_odds_27 : decode cX4_odds 27 = .ok (.iconst 0, 1) := by decide +kernel
theorem dX4_odds_28 : decode cX4_odds 28 = .ok (.iconst 1, 1) := by decide +kernel
theorem dX4_odds_29 : decode cX4_odds 29 = .ok (.invokestatic 63, 3) := by decide +kernel
theorem dX4_odds_32 : decode cX4_odds 32 = .ok (.ifCond .ne 5, 3) := by decide +kernel
theorem dX4_odds_35 : decode cX4_odds 35 = .ok (.iconst (-1), 1) := by decide +kernel
theorem dX4_odds_36 : decode cX4_odds 36 = .ok (.ireturn, 1) := by decide +kernel
theorem dX4_odds_37 : decode cX4_odds 37 = .ok (.iconst 0, 1) := by decide +kernel
theorem dX4_odds_38 : decode cX4_odds 38 = .ok (.istore 5, 2) := by decide +kernel
theorem dX4_odds_40 : decode cX4_odds 40 = .ok (.iconst 0, 1) := by decide +kernel
theorem dX4_odds_41 : decode cX4_odds 41 = .ok (.istore 6, 2) := by decide +kernel
theorem dX4_odds_43 : decode cX4_odds 43 = .ok (.iload 6, 2) := by decide +kernel
theorem dX4_odds_45 : decode cX4_odds 45 = .ok (.aload_n 0, 1) := by decide +kernel
theorem dX4_odds_46 : decode cX4_odds 46 = .ok (.getfield 19, 3) := by decide +kernel
theorem dX4_odds_49 : decode cX4_odds 49 = .ok (.getfield 151, 3) := by decide +kernel
theorem dX4_odds_52 : decode cX4_odds 52 = .ok (.if_icmp .ge 32, 3) := by decide +kernel
theorem dX4_odds_55 : decode cX4_odds 55 = .ok (.aload_n 0, 1) := by decide +kernel
theorem dX4_odds_56 : decode cX4_odds 56 = .ok (.iload 6, 2) := by decide +kernel
theorem dX4_odds_58 : decode cX4_odds 58 = .ok (.iload_n 1, 1) := by decide +kernel
theorem dX4_odds_59 : decode cX4_odds 59 = .ok (.iload_n 2, 1) := by decide +kernel
theorem dX4_odds_60 : decode cX4_odds 60 = .ok (.invokevirtual 191, 3) := by decide +kernel
theorem dX4_odds_63 : decode cX4_odds 63 = .ok (.aload_n 0, 1) := by decide +kernel
theorem dX4_odds_64 : decode cX4_odds 64 = .ok (.getfield 35, 3) := by decide +kernel
theorem dX4_odds_67 : decode cX4_odds 67 = .ok (.iload_n 3, 1) := by decide +kernel
theorem dX4_odds_68 : decode cX4_odds 68 = .ok (.iload_n 2, 1) := by decide +kernel
theorem dX4_odds_69 : decode cX4_odds 69 = .ok (.invokevirtual 208, 3) := by decide +kernel
theorem dX4_odds_72 : decode cX4_odds 72 = .ok (.ifCond .eq 6, 3) := by decide +kernel
theorem dX4_odds_75 : decode cX4_odds 75 = .ok (.iinc 5 1, 3) := by decide +kernel
theorem dX4_odds_78 : decode cX4_odds 78 = .ok (.iinc 6 1, 3) := by decide +kernel
theorem dX4_odds_81 : decode cX4_odds 81 = .ok (.goto (-38), 3) := by decide +kernel
theorem dX4_odds_84 : decode cX4_odds 84 = .ok (.iload 5, 2) := by decide +kernel
