theorem dX5_isHarsh_12 : decode cX5_isHarsh 12 = .ok (.isub, 1) := by decide +kernel
theorem dX5_isHarsh_13 : decode cX5_isHarsh 13 = .ok (.bipush 120, 2) := by decide +kernel
theorem dX5_isHarsh_15 : decode cX5_isHarsh 15 = .ok (.iadd, 1) := by decide +kernel
theorem dX5_isHarsh_16 : decode cX5_isHarsh 16 = .ok (.bipush 12, 2) := by decide +kernel
theorem dX5_isHarsh_18 : decode cX5_isHarsh 18 = .ok (.irem, 1) := by decide +kernel
theorem dX5_isHarsh_19 : decode cX5_isHarsh 19 = .ok (.istore_n 3, 1) := by decide +kernel
theorem dX5_isHarsh_20 : decode cX5_isHarsh 20 = .ok (.iload_n 3, 1) := by decide +kernel
theorem dX5_isHarsh_21 : decode cX5_isHarsh 21 = .ok (.iconst 1, 1) := by decide +kernel
theorem dX5_isHarsh_22 : decode cX5_isHarsh 22 = .ok (.if_icmp .eq 26, 3) := by decide +kernel
theorem dX5_isHarsh_25 : decode cX5_isHarsh 25 = .ok (.iload_n 3, 1) := by decide +kernel
theorem dX5_isHarsh_26 : decode cX5_isHarsh 26 = .ok (.iconst 2, 1) := by decide +kernel
theorem dX5_isHarsh_27 : decode cX5_isHarsh 27 = .ok (.if_icmp .eq 21, 3) := by decide +kernel
theorem dX5_isHarsh_30 : decode cX5_isHarsh 30 = .ok (.iload_n 3, 1) := by decide +kernel
theorem dX5_isHarsh_31 : decode cX5_isHarsh 31 = .ok (.bipush 6, 2) := by decide +kernel
theorem dX5_isHarsh_33 : decode cX5_isHarsh 33 = .ok (.if_icmp .eq 15, 3) := by decide +kernel
theorem dX5_isHarsh_36 : decode cX5_isHarsh 36 = .ok (.iload_n 3, 1) := by decide +kernel
theorem dX5_isHarsh_37 : decode cX5_isHarsh 37 = .ok (.bipush 10, 2) := by decide +kernel
theorem dX5_isHarsh_39 : decode cX5_isHarsh 39 = .ok (.if_icmp .eq 9, 3) := by decide +kernel
theorem dX5_isHarsh_42 : decode cX5_isHarsh 42 = .ok (.iload_n 3, 1) := by decide +kernel
theorem dX5_isHarsh_43 : decode cX5_isHarsh 43 = .ok (.bipush 11, 2) := by decide +kernel
theorem dX5_isHarsh_45 : decode cX5_isHarsh 45 = .ok (.if_icmp .ne 7, 3) := by decide +kernel
theorem dX5_isHarsh_48 : decode cX5_isHarsh 48 = .ok (.iconst 1, 1) := by decide +kernel
theorem dX5_isHarsh_49 : decode cX5_isHarsh 49 = .ok (.goto 4, 3) := by decide +kernel
theorem dX5_isHarsh_52 : decode cX5_isHarsh 52 = .ok (.iconst 0, 1) := by decide +kernel
theorem dX5_isHarsh_53 : decode cX5_isHarsh 53 = .ok (.ireturn, 1) := by decide +kernel
theorem dX5_harshOf_0 : decode cX5_harshOf 0 = .ok (.iconst 0, 1) := by decide +kernel
theorem dX5_harshOf_1 : decode cX5_harshOf 1 = .ok (.istore_n 2, 1) := by decide +kernel
theorem dX5_harshOf_2 : decode cX5_harshOf 2 = .ok (.iconst 0, 1) := by decide +kernel
theorem dX5_harshOf_3 : decode cX5_harshOf 3 = .ok (.istore_n 3, 1) := by decide +kernel
theorem dX5_harshOf_4 : decode cX5_harshOf 4 = .ok (.iload_n 3, 1) := by decide +kernel
theorem dX5_harshOf_5 : decode cX5_harshOf 5 = .ok (.aload_n 0, 1) := by decide +kernel
theorem dX5_harshOf_6 : decode cX5_harshOf 6 = .ok (.getfield 115, 3) := by decide +kernel
theorem dX5_harshOf_9 : decode cX5_harshOf 9 = .ok (.if_icmp .ge 66, 3) := by decide +kernel
theorem dX5_harshOf_12 : decode cX5_harshOf 12 = .ok (.iload_n 3, 1) := by decide +kernel
theorem dX5_harshOf_13 : decode cX5_harshOf 13 = .ok (.iconst 1, 1) := by decide +kernel
theorem dX5_harshOf_14 : decode cX5_harshOf 14 = .ok (.iadd, 1) := by decide +kernel
theorem dX5_harshOf_15 : decode cX5_harshOf 15 = .ok (.istore 4, 2) := by decide +kernel
theorem dX5_harshOf_17 : decode cX5_harshOf 17 = .ok (.iload 4, 2) := by decide +kernel
theorem dX5_harshOf_19 : decode cX5_harshOf 19 = .ok (.aload_n 0, 1) := by decide +kernel
theorem dX5_harshOf_20 : decode cX5_harshOf 20 = .ok (.getfield 115, 3) := by decide +kernel
theorem dX5_harshOf_23 : decode cX5_harshOf 23 = .ok (.if_icmp .ge 46, 3) := by decide +kernel
theorem dX5_harshOf_26 : decode cX5_harshOf 26 = .ok (.iload_n 2, 1) := by decide +kernel
theorem dX5_harshOf_27 : decode cX5_harshOf 27 = .ok (.aload_n 1, 1) := by decide +kernel
theorem dX5_harshOf_28 : decode cX5_harshOf 28 = .ok (.bipush 11, 2) := by decide +kernel
theorem dX5_harshOf_30 : decode cX5_harshOf 30 = .ok (.iload_n 3, 1) := by decide +kernel
theorem dX5_harshOf_31 : decode cX5_harshOf 31 = .ok (.iadd, 1) := by decide +kernel
theorem dX5_harshOf_32 : decode cX5_harshOf 32 = .ok (.iaload, 1) := by decide +kernel
theorem dX5_harshOf_33 : decode cX5_harshOf 33 = .ok (.ifCond .le 27, 3) := by decide +kernel
theorem dX5_harshOf_36 : decode cX5_harshOf 36 = .ok (.aload_n 1, 1) := by decide +kernel
theorem dX5_harshOf_37 : decode cX5_harshOf 37 = .ok (.bipush 11, 2) := by decide +kernel
theorem dX5_harshOf_39 : decode cX5_harshOf 39 = .ok (.iload 4, 2) := by decide +kernel
theorem dX5_harshOf_41 : decode cX5_harshOf 41 = .ok (.iadd, 1) := by decide +kernel
theorem dX5_harshOf_42 : decode cX5_harshOf 42 = .ok (.iaload, 1) := by decide +kernel
theorem dX5_harshOf_43 : decode cX5_harshOf 43 = .ok (.ifCond .le 17, 3) := by decide +kernel
theorem dX5_harshOf_46 : decode cX5_harshOf 46 = .ok (.aload_n 0, 1) := by decide +kernel
theorem dX5_harshOf_47 : decode cX5_harshOf 47 = .ok (.iload_n 3, 1) := by decide +kernel
theorem dX5_harshOf_48 : decode cX5_harshOf 48 = .ok (.iload 4, 2) := by decide +kernel
theorem dX5_harshOf_50 : decode cX5_harshOf 50 = .ok (.invokevirtual 124, 3) := by decide +kernel
theorem dX5_harshOf_53 : decode cX5_harshOf 53 = .ok (.ifCond .eq 7, 3) := by decide +kernel
theorem dX5_harshOf_56 : decode cX5_harshOf 56 = .ok (.iconst 1, 1) := by decide +kernel
theorem dX5_harshOf_57 : decode cX5_harshOf 57 = .ok (.goto 4, 3) := by decide +kernel
theorem dX5_harshOf_60 : decode cX5_harshOf 60 = .ok (.iconst 0, 1) := by decide +kernel
theorem dX5_harshOf_61 : decode cX5_harshOf 61 = .ok (.iadd, 1) := by decide +kernel
theorem dX5_harshOf_62 : decode cX5_harshOf 62 = .ok (.istore_n 2, 1) := by decide +kernel
theorem dX5_harshOf_63 : decode cX5_harshOf 63 = .ok (.iinc 4 1, 3) := by decide +kernel
theorem dX5_harshOf_66 : decode cX5_harshOf 66 = .ok (.goto (-49), 3) := by decide +kernel
theorem dX5_harshOf_69 : decode cX5_harshOf 69 = .ok (.iinc 3 1, 3) := by decide +kernel
theorem dX5_harshOf_72 : decode cX5_harshOf 72 = .ok (.goto (-68), 3) := by decide +kernel
theorem dX5_harshOf_75 : decode cX5_harshOf 75 = .ok (.iload_n 2, 1) := by decide +kernel
theorem dX5_harshOf_76 : decode cX5_harshOf 76 = .ok (.ireturn, 1) := by decide +kernel
theorem dX5_beats_0 : decode cX5_beats 0 = .ok (.iconst 0, 1) := by decide +kernel
theorem dX5_beats_1 : decode cX5_beats 1 = .ok (.istore 4, 2) := by decide +kernel
theorem dX5_beats_3 : decode cX5_beats 3 = .ok (.iload 4, 2) := by decide +kernel
theorem dX5_beats_5 : decode cX5_beats 5 = .ok (.aload_n 0, 1) := by decide +kernel
theorem dX5_beats_6 : decode cX5_beats 6 = .ok (.getfield 115, 3) := by decide +kernel
theorem dX5_beats_9 : decode cX5_beats 9 = .ok (.if_icmp .ge 34, 3) := by decide +kernel
theorem dX5_beats_12 : decode cX5_beats 12 = .ok (.aload_n 1, 1) := by decide +kernel
theorem dX5_beats_13 : decode cX5_beats 13 = .ok (.bipush 11, 2) := by decide +kernel
theorem dX5_beats_15 : decode cX5_beats 15 = .ok (.iload 4, 2) := by decide +kernel
theorem dX5_beats_17 : decode cX5_beats 17 = .ok (.iadd, 1) := by decide +kernel
theorem dX5_beats_18 : decode cX5_beats 18 = .ok (.dup2, 1) := by decide +kernel
theorem dX5_beats_19 : decode cX5_beats 19 = .ok (.iaload, 1) := by decide +kernel
theorem dX5_beats_20 : decode cX5_beats 20 = .ok (.aload_n 1, 1) := by decide +kernel
theorem dX5_beats_21 : decode cX5_beats 21 = .ok (.bipush 11, 2) := by decide +kernel
theorem dX5_beats_23 : decode cX5_beats 23 = .ok (.iload 4, 2) := by decide +kernel
theorem dX5_beats_25 : decode cX5_beats 25 = .ok (.iadd, 1) := by decide +kernel
theorem dX5_beats_26 : decode cX5_beats 26 = .ok (.iaload, 1) := by decide +kernel
theorem dX5_beats_27 : decode cX5_beats 27 = .ok (.ifCond .le 7, 3) := by decide +kernel
theorem dX5_beats_30 : decode cX5_beats 30 = .ok (.iconst 1, 1) := by decide +kernel
theorem dX5_beats_31 : decode cX5_beats 31 = .ok (.goto 4, 3) := by decide +kernel
theorem dX5_beats_34 : decode cX5_beats 34 = .ok (.iconst 0, 1) := by decide +kernel
theorem dX5_beats_35 : decode cX5_beats 35 = .ok (.isub, 1) := by decide +kernel
theorem dX5_beats_36 : decode cX5_beats 36 = .ok (.iastore, 1) := by decide +kernel
theorem dX5_beats_37 : decode cX5_beats 37 = .ok (.iinc 4 1, 3) := by decide +kernel
theorem dX5_beats_40 : decode cX5_beats 40 = .ok (.goto (-37), 3) := by decide +kernel
theorem dX5_beats_43 : decode cX5_beats 43 = .ok (.iload_n 3, 1) := by decide +kernel
theorem dX5_beats_44 : decode cX5_beats 44 = .ok (.ifCond .le 21, 3) := by decide +kernel
theorem dX5_beats_47 : decode cX5_beats 47 = .ok (.iload_n 3, 1) := by decide +kernel
theorem dX5_beats_48 : decode cX5_beats 48 = .ok (.aload_n 1, 1) := by decide +kernel
theorem dX5_beats_49 : decode cX5_beats 49 = .ok (.iconst 2, 1) := by decide +kernel
theorem dX5_beats_50 : decode cX5_beats 50 = .ok (.iaload, 1) := by decide +kernel
theorem dX5_beats_51 : decode cX5_beats 51 = .ok (.if_icmp .lt 14, 3) := by decide +kernel
theorem dX5_beats_54 : decode cX5_beats 54 = .ok (.aload_n 1, 1) := by decide +kernel
theorem dX5_beats_55 : decode cX5_beats 55 = .ok (.iconst 1, 1) := by decide +kernel
theorem dX5_beats_56 : decode cX5_beats 56 = .ok (.iload_n 2, 1) := by decide +kernel
theorem dX5_beats_57 : decode cX5_beats 57 = .ok (.iastore, 1) := by decide +kernel
theorem dX5_beats_58 : decode cX5_beats 58 = .ok (.aload_n 1, 1) := by decide +kernel
theorem dX5_beats_59 : decode cX5_beats 59 = .ok (.iconst 2, 1) := by decide +kernel
theorem dX5_beats_60 : decode cX5_beats 60 = .ok (.iload_n 3, 1) := by decide +kernel
theorem dX5_beats_61 : decode cX5_beats 61 = .ok (.iastore, 1) := by decide +kernel
theorem dX5_beats_62 : decode cX5_beats 62 = .ok (.goto 46, 3) := by decide +kernel
theorem dX5_beats_65 : decode cX5_beats 65 = .ok (.aload_n 1, 1) := by decide +kernel
theorem dX5_beats_66 : decode cX5_beats 66 = .ok (.iconst 1, 1) := by decide +kernel
theorem dX5_beats_67 : decode cX5_beats 67 = .ok (.aload_n 1, 1) := by decide +kernel
theorem dX5_beats_68 : decode cX5_beats 68 = .ok (.iconst 1, 1) := by decide +kernel
theorem dX5_beats_69 : decode cX5_beats 69 = .ok (.iaload, 1) := by decide +kernel
theorem dX5_beats_70 : decode cX5_beats 70 = .ok (.aload_n 0, 1) := by decide +kernel
theorem dX5_beats_71 : decode cX5_beats 71 = .ok (.getfield 115, 3) := by decide +kernel
theorem dX5_beats_74 : decode cX5_beats 74 = .ok (.iconst 2, 1) := by decide +kernel
theorem dX5_beats_75 : decode cX5_beats 75 = .ok (.idiv, 1) := by decide +kernel
theorem dX5_beats_76 : decode cX5_beats 76 = .ok (.iadd, 1) := by decide +kernel
theorem dX5_beats_77 : decode cX5_beats 77 = .ok (.aload_n 0, 1) := by decide +kernel
theorem dX5_beats_78 : decode cX5_beats 78 = .ok (.getfield 115, 3) := by decide +kernel
theorem dX5_beats_81 : decode cX5_beats 81 = .ok (.irem, 1) := by decide +kernel
theorem dX5_beats_82 : decode cX5_beats 82 = .ok (.iastore, 1) := by decide +kernel
theorem dX5_beats_83 : decode cX5_beats 83 = .ok (.aload_n 1, 1) := by decide +kernel
theorem dX5_beats_84 : decode cX5_beats 84 = .ok (.iconst 2, 1) := by decide +kernel
theorem dX5_beats_85 : decode cX5_beats 85 = .ok (.aload_n 1, 1) := by decide +kernel
theorem dX5_beats_86 : decode cX5_beats 86 = .ok (.iconst 2, 1) := by decide +kernel
theorem dX5_beats_87 : decode cX5_beats 87 = .ok (.iaload, 1) := by decide +kernel
theorem dX5_beats_88 : decode cX5_beats 88 = .ok (.aload_n 0, 1) := by decide +kernel
theorem dX5_beats_89 : decode cX5_beats 89 = .ok (.getfield 50, 3) := by decide +kernel
theorem dX5_beats_92 : decode cX5_beats 92 = .ok (.if_icmp .le 14, 3) := by decide +kernel
theorem dX5_beats_95 : decode cX5_beats 95 = .ok (.aload_n 1, 1) := by decide +kernel
theorem dX5_beats_96 : decode cX5_beats 96 = .ok (.iconst 2, 1) := by decide +kernel
theorem dX5_beats_97 : decode cX5_beats 97 = .ok (.iaload, 1) := by decide +kernel
theorem dX5_beats_98 : decode cX5_beats 98 = .ok (.aload_n 0, 1) := by decide +kernel
theorem dX5_beats_99 : decode cX5_beats 99 = .ok (.getfield 50, 3) := by decide +kernel
theorem dX5_beats_102 : decode cX5_beats 102 = .ok (.isub, 1) := by decide +kernel
theorem dX5_beats_103 : decode cX5_beats 103 = .ok (.goto 4, 3) := by decide +kernel
theorem dX5_beats_106 : decode cX5_beats 106 = .ok (.iconst 0, 1) := by decide +kernel
theorem dX5_beats_107 : decode cX5_beats 107 = .ok (.iastore, 1) := by decide +kernel
theorem dX5_beats_108 : decode cX5_beats 108 = .ok (.aload_n 1, 1) := by decide +kernel
theorem dX5_beats_109 : decode cX5_beats 109 = .ok (.iconst 0, 1) := by decide +kernel
theorem dX5_beats_110 : decode cX5_beats 110 = .ok (.dup2, 1) := by decide +kernel
theorem dX5_beats_111 : decode cX5_beats 111 = .ok (.iaload, 1) := by decide +kernel
theorem dX5_beats_112 : decode cX5_beats 112 = .ok (.iconst 1, 1) := by decide +kernel
theorem dX5_beats_113 : decode cX5_beats 113 = .ok (.iadd, 1) := by decide +kernel
theorem dX5_beats_114 : decode cX5_beats 114 = .ok (.iastore, 1) := by decide +kernel
theorem dX5_beats_115 : decode cX5_beats 115 = .ok (.aload_n 0, 1) := by decide +kernel
theorem dX5_beats_116 : decode cX5_beats 116 = .ok (.aload_n 1, 1) := by decide +kernel
theorem dX5_beats_117 : decode cX5_beats 117 = .ok (.aload_n 1, 1) := by decide +kernel
theorem dX5_beats_118 : decode cX5_beats 118 = .ok (.iconst 1, 1) := by decide +kernel
theorem dX5_beats_119 : decode cX5_beats 119 = .ok (.iaload, 1) := by decide +kernel
theorem dX5_beats_120 : decode cX5_beats 120 = .ok (.invokevirtual 128, 3) := by decide +kernel
theorem dX5_beats_123 : decode cX5_beats 123 = .ok (.istore 4, 2) := by decide +kernel
theorem dX5_beats_125 : decode cX5_beats 125 = .ok (.aload_n 1, 1) := by decide +kernel
theorem dX5_beats_126 : decode cX5_beats 126 = .ok (.iconst 2, 1) := by decide +kernel
theorem dX5_beats_127 : decode cX5_beats 127 = .ok (.iaload, 1) := by decide +kernel
theorem dX5_beats_128 : decode cX5_beats 128 = .ok (.aload_n 0, 1) := by decide +kernel
theorem dX5_beats_129 : decode cX5_beats 129 = .ok (.getfield 16, 3) := by decide +kernel
theorem dX5_beats_132 : decode cX5_beats 132 = .ok (.iload 4, 2) := by decide +kernel
theorem dX5_beats_134 : decode cX5_beats 134 = .ok (.iaload, 1) := by decide +kernel
theorem dX5_beats_135 : decode cX5_beats 135 = .ok (.if_icmp .ge 6, 3) := by decide +kernel
theorem dX5_beats_138 : decode cX5_beats 138 = .ok (.bipush (-9), 2) := by decide +kernel
theorem dX5_beats_140 : decode cX5_beats 140 = .ok (.ireturn, 1) := by decide +kernel
theorem dX5_beats_141 : decode cX5_beats 141 = .ok (.aload_n 1, 1) := by decide +kernel
theorem dX5_beats_142 : decode cX5_beats 142 = .ok (.bipush 11, 2) := by decide +kernel
theorem dX5_beats_144 : decode cX5_beats 144 = .ok (.iload 4, 2) := by decide +kernel
theorem dX5_beats_146 : decode cX5_beats 146 = .ok (.iadd, 1) := by decide +kernel
theorem dX5_beats_147 : decode cX5_beats 147 = .ok (.aload_n 0, 1) := by decide +kernel
theorem dX5_beats_148 : decode cX5_beats 148 = .ok (.getfield 19, 3) := by decide +kernel
theorem dX5_beats_151 : decode cX5_beats 151 = .ok (.iload 4, 2) := by decide +kernel
theorem dX5_beats_153 : decode cX5_beats 153 = .ok (.iaload, 1) := by decide +kernel
theorem dX5_beats_154 : decode cX5_beats 154 = .ok (.iastore, 1) := by decide +kernel
theorem dX5_beats_155 : decode cX5_beats 155 = .ok (.aload_n 1, 1) := by decide +kernel
theorem dX5_beats_156 : decode cX5_beats 156 = .ok (.iconst 2, 1) := by decide +kernel
theorem dX5_beats_157 : decode cX5_beats 157 = .ok (.dup2, 1) := by decide +kernel
theorem dX5_beats_158 : decode cX5_beats 158 = .ok (.iaload, 1) := by decide +kernel
theorem dX5_beats_159 : decode cX5_beats 159 = .ok (.iconst 1, 1) := by decide +kernel
theorem dX5_beats_160 : decode cX5_beats 160 = .ok (.isub, 1) := by decide +kernel
theorem dX5_beats_161 : decode cX5_beats 161 = .ok (.iastore, 1) := by decide +kernel
theorem dX5_beats_162 : decode cX5_beats 162 = .ok (.iload 4, 2) := by decide +kernel
theorem dX5_beats_164 : decode cX5_beats 164 = .ok (.ireturn, 1) := by decide +kernel
theorem dX5_asNow_0 : decode cX5_asNow 0 = .ok (.iconst 0, 1) := by decide +kernel
theorem dX5_asNow_1 : decode cX5_asNow 1 = .ok (.istore_n 1, 1) := by decide +kernel
theorem dX5_asNow_2 : decode cX5_asNow 2 = .ok (.iload_n 1, 1) := by decide +kernel
theorem dX5_asNow_3 : decode cX5_asNow 3 = .ok (.bipush 19, 2) := by decide +kernel
theorem dX5_asNow_5 : decode cX5_asNow 5 = .ok (.if_icmp .ge 21, 3) := by decide +kernel
theorem dX5_asNow_8 : decode cX5_asNow 8 = .ok (.aload_n 0, 1) := by decide +kernel
theorem dX5_asNow_9 : decode cX5_asNow 9 = .ok (.getfield 25, 3) := by decide +kernel
theorem dX5_asNow_12 : decode cX5_asNow 12 = .ok (.iload_n 1, 1) := by decide +kernel
theorem dX5_asNow_13 : decode cX5_asNow 13 = .ok (.aload_n 0, 1) := by decide +kernel
theorem dX5_asNow_14 : decode cX5_asNow 14 = .ok (.getfield 22, 3) := by decide +kernel
theorem dX5_asNow_17 : decode cX5_asNow 17 = .ok (.iload_n 1, 1) := by decide +kernel
theorem dX5_asNow_18 : decode cX5_asNow 18 = .ok (.iaload, 1) := by decide +kernel
theorem dX5_asNow_19 : decode cX5_asNow 19 = .ok (.iastore, 1) := by decide +kernel
theorem dX5_asNow_20 : decode cX5_asNow 20 = .ok (.iinc 1 1, 3) := by decide +kernel
theorem dX5_asNow_23 : decode cX5_asNow 23 = .ok (.goto (-21), 3) := by decide +kernel
theorem dX5_asNow_26 : decode cX5_asNow 26 = .ok (.aload_n 0, 1) := by decide +kernel
theorem dX5_asNow_27 : decode cX5_asNow 27 = .ok (.iconst 0, 1) := by decide +kernel
theorem dX5_asNow_28 : decode cX5_asNow 28 = .ok (.putfield 132, 3) := by decide +kernel
theorem dX5_asNow_31 : decode cX5_asNow 31 = .ok (.aload_n 0, 1) := by decide +kernel
theorem dX5_asNow_32 : decode cX5_asNow 32 = .ok (.iconst 0, 1) := by decide +kernel
theorem dX5_asNow_33 : decode cX5_asNow 33 = .ok (.putfield 135, 3) := by decide +kernel
theorem dX5_asNow_36 : decode cX5_asNow 36 = .ok (.return_, 1) := by decide +kernel
theorem dX5_heardNow_0 : decode cX5_heardNow 0 = .ok (.aload_n 0, 1) := by decide +kernel
theorem dX5_heardNow_1 : decode cX5_heardNow 1 = .ok (.dup, 1) := by decide +kernel
theorem dX5_heardNow_2 : decode cX5_heardNow 2 = .ok (.getfield 132, 3) := by decide +kernel
theorem dX5_heardNow_5 : decode cX5_heardNow 5 = .ok (.iload_n 1, 1) := by decide +kernel
theorem dX5_heardNow_6 : decode cX5_heardNow 6 = .ok (.bipush (-9), 2) := by decide +kernel
theorem dX5_heardNow_8 : decode cX5_heardNow 8 = .ok (.if_icmp .ne 7, 3) := by decide +kernel
theorem dX5_heardNow_11 : decode cX5_heardNow 11 = .ok (.iconst 0, 1) := by decide +kernel
theorem dX5_heardNow_12 : decode cX5_heardNow 12 = .ok (.goto 6, 3) := by decide +kernel
theorem dX5_heardNow_15 : decode cX5_heardNow 15 = .ok (.iconst 1, 1) := by decide +kernel
theorem dX5_heardNow_16 : decode cX5_heardNow 16 = .ok (.iload_n 1, 1) := by decide +kernel
theorem dX5_heardNow_17 : decode cX5_heardNow 17 = .ok (.ishl, 1) := by decide +kernel
theorem dX5_heardNow_18 : decode cX5_heardNow 18 = .ok (.ior, 1) := by decide +kernel
theorem dX5_heardNow_19 : decode cX5_heardNow 19 = .ok (.putfield 132, 3) := by decide +kernel
theorem dX5_heardNow_22 : decode cX5_heardNow 22 = .ok (.aload_n 0, 1) := by decide +kernel
theorem dX5_heardNow_23 : decode cX5_heardNow 23 = .ok (.aload_n 0, 1) := by decide +kernel
theorem dX5_heardNow_24 : decode cX5_heardNow 24 = .ok (.getfield 25, 3) := by decide +kernel
theorem dX5_heardNow_27 : decode cX5_heardNow 27 = .ok (.invokevirtual 138, 3) := by decide +kernel
theorem dX5_heardNow_30 : decode cX5_heardNow 30 = .ok (.istore_n 2, 1) := by decide +kernel
theorem dX5_heardNow_31 : decode cX5_heardNow 31 = .ok (.aload_n 0, 1) := by decide +kernel
theorem dX5_heardNow_32 : decode cX5_heardNow 32 = .ok (.iload_n 2, 1) := by decide +kernel
theorem dX5_heardNow_33 : decode cX5_heardNow 33 = .ok (.aload_n 0, 1) := by decide +kernel
theorem dX5_heardNow_34 : decode cX5_heardNow 34 = .ok (.getfield 135, 3) := by decide +kernel
theorem dX5_heardNow_37 : decode cX5_heardNow 37 = .ok (.if_icmp .le 7, 3) := by decide +kernel
theorem dX5_heardNow_40 : decode cX5_heardNow 40 = .ok (.iload_n 2, 1) := by decide +kernel
theorem dX5_heardNow_41 : decode cX5_heardNow 41 = .ok (.goto 7, 3) := by decide +kernel
theorem dX5_heardNow_44 : decode cX5_heardNow 44 = .ok (.aload_n 0, 1) := by decide +kernel
theorem dX5_heardNow_45 : decode cX5_heardNow 45 = .ok (.getfield 135, 3) := by decide +kernel
theorem dX5_heardNow_48 : decode cX5_heardNow 48 = .ok (.putfield 135, 3) := by decide +kernel
theorem dX5_heardNow_51 : decode cX5_heardNow 51 = .ok (.return_, 1) := by decide +kernel
theorem dX5_calmBeats_0 : decode cX5_calmBeats 0 = .ok (.iconst 0, 1) := by decide +kernel
theorem dX5_calmBeats_1 : decode cX5_calmBeats 1 = .ok (.istore_n 2, 1) := by decide +kernel
theorem dX5_calmBeats_2 : decode cX5_calmBeats 2 = .ok (.iload_n 2, 1) := by decide +kernel
theorem dX5_calmBeats_3 : decode cX5_calmBeats 3 = .ok (.iload_n 1, 1) := by decide +kernel
theorem dX5_calmBeats_4 : decode cX5_calmBeats 4 = .ok (.if_icmp .ge 30, 3) := by decide +kernel
theorem dX5_calmBeats_7 : decode cX5_calmBeats 7 = .ok (.aload_n 0, 1) := by decide +kernel
theorem dX5_calmBeats_8 : decode cX5_calmBeats 8 = .ok (.getfield 115, 3) := by decide +kernel
theorem dX5_calmBeats_11 : decode cX5_calmBeats 11 = .ok (.ifCond .le 23, 3) := by decide +kernel
theorem dX5_calmBeats_14 : decode cX5_calmBeats 14 = .ok (.aload_n 0, 1) := by decide +kernel
theorem dX5_calmBeats_15 : decode cX5_calmBeats 15 = .ok (.aload_n 0, 1) := by decide +kernel
theorem dX5_calmBeats_16 : decode cX5_calmBeats 16 = .ok (.aload_n 0, 1) := by decide +kernel
theorem dX5_calmBeats_17 : decode cX5_calmBeats 17 = .ok (.getfield 25, 3) := by decide +kernel
theorem dX5_calmBeats_20 : decode cX5_calmBeats 20 = .ok (.iconst 0, 1) := by decide +kernel
theorem dX5_calmBeats_21 : decode cX5_calmBeats 21 = .ok (.iconst 0, 1) := by decide +kernel
theorem dX5_calmBeats_22 : decode cX5_calmBeats 22 = .ok (.invokevirtual 142, 3) := by decide +kernel
theorem dX5_calmBeats_25 : decode cX5_calmBeats 25 = .ok (.invokevirtual 146, 3) := by decide +kernel
theorem dX5_calmBeats_28 : decode cX5_calmBeats 28 = .ok (.iinc 2 1, 3) := by decide +kernel
theorem dX5_calmBeats_31 : decode cX5_calmBeats 31 = .ok (.goto (-29), 3) := by decide +kernel
theorem dX5_calmBeats_34 : decode cX5_calmBeats 34 = .ok (.return_, 1) := by decide +kernel
theorem dX5_gustAndCalm_0 : decode cX5_gustAndCalm 0 = .ok (.aload_n 0, 1) := by decide +kernel
theorem dX5_gustAndCalm_1 : decode cX5_gustAndCalm 1 = .ok (.invokevirtual 149, 3) := by decide +kernel
theorem dX5_gustAndCalm_4 : decode cX5_gustAndCalm 4 = .ok (.aload_n 0, 1) := by decide +kernel
theorem dX5_gustAndCalm_5 : decode cX5_gustAndCalm 5 = .ok (.aload_n 0, 1) := by decide +kernel
theorem dX5_gustAndCalm_6 : decode cX5_gustAndCalm 6 = .ok (.aload_n 0, 1) := by decide +kernel
theorem dX5_gustAndCalm_7 : decode cX5_gustAndCalm 7 = .ok (.getfield 25, 3) := by decide +kernel
theorem dX5_gustAndCalm_10 : decode cX5_gustAndCalm 10 = .ok (.iload_n 1, 1) := by decide +kernel
theorem dX5_gustAndCalm_11 : decode cX5_gustAndCalm 11 = .ok (.iload_n 2, 1) := by decide +kernel
theorem dX5_gustAndCalm_12 : decode cX5_gustAndCalm 12 = .ok (.invokevirtual 142, 3) := by decide +kernel
theorem dX5_gustAndCalm_15 : decode cX5_gustAndCalm 15 = .ok (.invokevirtual 146, 3) := by decide +kernel
theorem dX5_gustAndCalm_18 : decode cX5_gustAndCalm 18 = .ok (.aload_n 0, 1) := by decide +kernel
theorem dX5_gustAndCalm_19 : decode cX5_gustAndCalm 19 = .ok (.iload_n 3, 1) := by decide +kernel
theorem dX5_gustAndCalm_20 : decode cX5_gustAndCalm 20 = .ok (.invokevirtual 152, 3) := by decide +kernel
theorem dX5_gustAndCalm_23 : decode cX5_gustAndCalm 23 = .ok (.return_, 1) := by decide +kernel
theorem dX5_stillIn_0 : decode cX5_stillIn 0 = .ok (.aload_n 0, 1) := by decide +kernel
theorem dX5_stillIn_1 : decode cX5_stillIn 1 = .ok (.invokevirtual 149, 3) := by decide +kernel
theorem dX5_stillIn_4 : decode cX5_stillIn 4 = .ok (.iconst 0, 1) := by decide +kernel
theorem dX5_stillIn_5 : decode cX5_stillIn 5 = .ok (.istore_n 1, 1) := by decide +kernel
theorem dX5_stillIn_6 : decode cX5_stillIn 6 = .ok (.iload_n 1, 1) := by decide +kernel
theorem dX5_stillIn_7 : decode cX5_stillIn 7 = .ok (.bipush 60, 2) := by decide +kernel
theorem dX5_stillIn_9 : decode cX5_stillIn 9 = .ok (.if_icmp .gt 36, 3) := by decide +kernel
theorem dX5_stillIn_12 : decode cX5_stillIn 12 = .ok (.aload_n 0, 1) := by decide +kernel
theorem dX5_stillIn_13 : decode cX5_stillIn 13 = .ok (.aload_n 0, 1) := by decide +kernel
theorem dX5_stillIn_14 : decode cX5_stillIn 14 = .ok (.getfield 25, 3) := by decide +kernel
theorem dX5_stillIn_17 : decode cX5_stillIn 17 = .ok (.invokevirtual 155, 3) := by decide +kernel
theorem dX5_stillIn_20 : decode cX5_stillIn 20 = .ok (.ifCond .ne 14, 3) := by decide +kernel
theorem dX5_stillIn_23 : decode cX5_stillIn 23 = .ok (.aload_n 0, 1) := by decide +kernel
theorem dX5_stillIn_24 : decode cX5_stillIn 24 = .ok (.getfield 25, 3) := by decide +kernel
theorem dX5_stillIn_27 : decode cX5_stillIn 27 = .ok (.iconst 2, 1) := by decide +kernel
theorem dX5_stillIn_28 : decode cX5_stillIn 28 = .ok (.iaload, 1) := by decide +kernel
theorem dX5_stillIn_29 : decode cX5_stillIn 29 = .ok (.ifCond .ne 5, 3) := by decide +kernel
theorem dX5_stillIn_32 : decode cX5_stillIn 32 = .ok (.iload_n 1, 1) := by decide +kernel
theorem dX5_stillIn_33 : decode cX5_stillIn 33 = .ok (.ireturn, 1) := by decide +kernel
theorem dX5_stillIn_34 : decode cX5_stillIn 34 = .ok (.aload_n 0, 1) := by decide +kernel
theorem dX5_stillIn_35 : decode cX5_stillIn 35 = .ok (.iconst 1, 1) := by decide +kernel
theorem dX5_stillIn_36 : decode cX5_stillIn 36 = .ok (.invokevirtual 152, 3) := by decide +kernel
theorem dX5_stillIn_39 : decode cX5_stillIn 39 = .ok (.iinc 1 1, 3) := by decide +kernel
theorem dX5_stillIn_42 : decode cX5_stillIn 42 = .ok (.goto (-36), 3) := by decide +kernel
theorem dX5_stillIn_45 : decode cX5_stillIn 45 = .ok (.bipush (-9), 2) := by decide +kernel
theorem dX5_stillIn_47 : decode cX5_stillIn 47 = .ok (.ireturn, 1) := by decide +kernel
theorem dX5_rod_0 : decode cX5_rod 0 = .ok (.aload_n 0, 1) := by decide +kernel
theorem dX5_rod_1 : decode cX5_rod 1 = .ok (.iconst 0, 1) := by decide +kernel
theorem dX5_rod_2 : decode cX5_rod 2 = .ok (.putfield 54, 3) := by decide +kernel
theorem dX5_rod_5 : decode cX5_rod 5 = .ok (.aload_n 0, 1) := by decide +kernel
theorem dX5_rod_6 : decode cX5_rod 6 = .ok (.iload_n 1, 1) := by decide +kernel
theorem dX5_rod_7 : decode cX5_rod 7 = .ok (.invokevirtual 158, 3) := by decide +kernel
theorem dX5_rod_10 : decode cX5_rod 10 = .ok (.ifCond .eq 12, 3) := by decide +kernel
theorem dX5_rod_13 : decode cX5_rod 13 = .ok (.iload_n 2, 1) := by decide +kernel
theorem dX5_rod_14 : decode cX5_rod 14 = .ok (.iconst 0, 1) := by decide +kernel
theorem dX5_rod_15 : decode cX5_rod 15 = .ok (.iconst 4, 1) := by decide +kernel
theorem dX5_rod_16 : decode cX5_rod 16 = .ok (.invokestatic 57, 3) := by decide +kernel
theorem dX5_rod_19 : decode cX5_rod 19 = .ok (.ifCond .ne 5, 3) := by decide +kernel
theorem dX5_rod_22 : decode cX5_rod 22 = .ok (.iconst (-1), 1) := by decide +kernel
theorem dX5_rod_23 : decode cX5_rod 23 = .ok (.ireturn, 1) := by decide +kernel
theorem dX5_rod_24 : decode cX5_rod 24 = .ok (.iload_n 2, 1) := by decide +kernel
theorem dX5_rod_25 : decode cX5_rod 25 = .ok (.iconst 3, 1) := by decide +kernel
theorem dX5_rod_26 : decode cX5_rod 26 = .ok (.if_icmp .ge 37, 3) := by decide +kernel
theorem dX5_rod_29 : decode cX5_rod 29 = .ok (.iload_n 2, 1) := by decide +kernel
theorem dX5_rod_30 : decode cX5_rod 30 = .ok (.ifCond .ne 12, 3) := by decide +kernel
theorem dX5_rod_33 : decode cX5_rod 33 = .ok (.aload_n 0, 1) := by decide +kernel
theorem dX5_rod_34 : decode cX5_rod 34 = .ok (.getfield 13, 3) := by decide +kernel
theorem dX5_rod_37 : decode cX5_rod 37 = .ok (.iload_n 1, 1) := by decide +kernel
theorem dX5_rod_38 : decode cX5_rod 38 = .ok (.iaload, 1) := by decide +kernel
theorem dX5_rod_39 : decode cX5_rod 39 = .ok (.goto 23, 3) := by decide +kernel
theorem dX5_rod_42 : decode cX5_rod 42 = .ok (.iload_n 2, 1) := by decide +kernel
theorem dX5_rod_43 : decode cX5_rod 43 = .ok (.iconst 1, 1) := by decide +kernel
theorem dX5_rod_44 : decode cX5_rod 44 = .ok (.if_icmp .ne 12, 3) := by decide +kernel
theorem dX5_rod_47 : decode cX5_rod 47 = .ok (.aload_n 0, 1) := by decide +kernel
theorem dX5_rod_48 : decode cX5_rod 48 = .ok (.getfield 16, 3) := by decide +kernel
theorem dX5_rod_51 : decode cX5_rod 51 = .ok (.iload_n 1, 1) := by decide +kernel
theorem dX5_rod_52 : decode cX5_rod 52 = .ok (.iaload, 1) := by decide +kernel
theorem dX5_rod_53 : decode cX5_rod 53 = .ok (.goto 9, 3) := by decide +kernel
theorem dX5_rod_56 : decode cX5_rod 56 = .ok (.aload_n 0, 1) := by decide +kernel
theorem dX5_rod_57 : decode cX5_rod 57 = .ok (.getfield 19, 3) := by decide +kernel
theorem dX5_rod_60 : decode cX5_rod 60 = .ok (.iload_n 1, 1) := by decide +kernel
theorem dX5_rod_61 : decode cX5_rod 61 = .ok (.iaload, 1) := by decide +kernel
theorem dX5_rod_62 : decode cX5_rod 62 = .ok (.ireturn, 1) := by decide +kernel
theorem dX5_rod_63 : decode cX5_rod 63 = .ok (.iload_n 2, 1) := by decide +kernel
theorem dX5_rod_64 : decode cX5_rod 64 = .ok (.iconst 3, 1) := by decide +kernel
theorem dX5_rod_65 : decode cX5_rod 65 = .ok (.if_icmp .ne 14, 3) := by decide +kernel
theorem dX5_rod_68 : decode cX5_rod 68 = .ok (.aload_n 0, 1) := by decide +kernel
theorem dX5_rod_69 : decode cX5_rod 69 = .ok (.getfield 22, 3) := by decide +kernel
theorem dX5_rod_72 : decode cX5_rod 72 = .ok (.iconst 3, 1) := by decide +kernel
theorem dX5_rod_73 : decode cX5_rod 73 = .ok (.iload_n 1, 1) := by decide +kernel
theorem dX5_rod_74 : decode cX5_rod 74 = .ok (.iadd, 1) := by decide +kernel
theorem dX5_rod_75 : decode cX5_rod 75 = .ok (.iaload, 1) := by decide +kernel
theorem dX5_rod_76 : decode cX5_rod 76 = .ok (.goto 12, 3) := by decide +kernel
theorem dX5_rod_79 : decode cX5_rod 79 = .ok (.aload_n 0, 1) := by decide +kernel
theorem dX5_rod_80 : decode cX5_rod 80 = .ok (.getfield 22, 3) := by decide +kernel
theorem dX5_rod_83 : decode cX5_rod 83 = .ok (.bipush 11, 2) := by decide +kernel
theorem dX5_rod_85 : decode cX5_rod 85 = .ok (.iload_n 1, 1) := by decide +kernel
theorem dX5_rod_86 : decode cX5_rod 86 = .ok (.iadd, 1) := by decide +kernel
theorem dX5_rod_87 : decode cX5_rod 87 = .ok (.iaload, 1) := by decide +kernel
theorem dX5_rod_88 : decode cX5_rod 88 = .ok (.ireturn, 1) := by decide +kernel
theorem dX5_side_0 : decode cX5_side 0 = .ok (.aload_n 0, 1) := by decide +kernel
theorem dX5_side_1 : decode cX5_side 1 = .ok (.iconst 0, 1) := by decide +kernel
theorem dX5_side_2 : decode cX5_side 2 = .ok (.putfield 54, 3) := by decide +kernel
theorem dX5_side_5 : decode cX5_side 5 = .ok (.aload_n 0, 1) := by decide +kernel
theorem dX5_side_6 : decode cX5_side 6 = .ok (.iload_n 1, 1) := by decide +kernel
theorem dX5_side_7 : decode cX5_side 7 = .ok (.invokevirtual 158, 3) := by decide +kernel
theorem dX5_side_10 : decode cX5_side 10 = .ok (.ifCond .eq 15, 3) := by decide +kernel
theorem dX5_side_13 : decode cX5_side 13 = .ok (.aload_n 0, 1) := by decide +kernel
theorem dX5_side_14 : decode cX5_side 14 = .ok (.aload_n 0, 1) := by decide +kernel
theorem dX5_side_15 : decode cX5_side 15 = .ok (.getfield 22, 3) := by decide +kernel
theorem dX5_side_18 : decode cX5_side 18 = .ok (.iload_n 1, 1) := by decide +kernel
theorem dX5_side_19 : decode cX5_side 19 = .ok (.invokevirtual 128, 3) := by decide +kernel
theorem dX5_side_22 : decode cX5_side 22 = .ok (.goto 4, 3) := by decide +kernel
theorem dX5_side_25 : decode cX5_side 25 = .ok (.iconst (-1), 1) := by decide +kernel
theorem dX5_side_26 : decode cX5_side 26 = .ok (.ireturn, 1) := by decide +kernel
theorem dX5_now_0 : decode cX5_now 0 = .ok (.aload_n 0, 1) := by decide +kernel
theorem dX5_now_1 : decode cX5_now 1 = .ok (.iconst 0, 1) := by decide +kernel
theorem dX5_now_2 : decode cX5_now 2 = .ok (.putfield 54, 3) := by decide +kernel
theorem dX5_now_5 : decode cX5_now 5 = .ok (.iload_n 1, 1) := by decide +kernel
theorem dX5_now_6 : decode cX5_now 6 = .ok (.iconst 0, 1) := by decide +kernel
theorem dX5_now_7 : decode cX5_now 7 = .ok (.bipush 6, 2) := by decide +kernel
theorem dX5_now_9 : decode cX5_now 9 = .ok (.invokestatic 57, 3) := by decide +kernel
theorem dX5_now_12 : decode cX5_now 12 = .ok (.ifCond .ne 5, 3) := by decide +kernel
theorem dX5_now_15 : decode cX5_now 15 = .ok (.iconst (-1), 1) := by decide +kernel
theorem dX5_now_16 : decode cX5_now 16 = .ok (.ireturn, 1) := by decide +kernel
theorem dX5_now_17 : decode cX5_now 17 = .ok (.iload_n 1, 1) := by decide +kernel
theorem dX5_now_18 : decode cX5_now 18 = .ok (.iconst 3, 1) := by decide +kernel
theorem dX5_now_19 : decode cX5_now 19 = .ok (.if_icmp .ge 37, 3) := by decide +kernel
theorem dX5_now_22 : decode cX5_now 22 = .ok (.iload_n 1, 1) := by decide +kernel
theorem dX5_now_23 : decode cX5_now 23 = .ok (.ifCond .ne 12, 3) := by decide +kernel
theorem dX5_now_26 : decode cX5_now 26 = .ok (.aload_n 0, 1) := by decide +kernel
theorem dX5_now_27 : decode cX5_now 27 = .ok (.getfield 22, 3) := by decide +kernel
theorem dX5_now_30 : decode cX5_now 30 = .ok (.iconst 0, 1) := by decide +kernel
theorem dX5_now_31 : decode cX5_now 31 = .ok (.iaload, 1) := by decide +kernel
theorem dX5_now_32 : decode cX5_now 32 = .ok (.goto 23, 3) := by decide +kernel
theorem dX5_now_35 : decode cX5_now 35 = .ok (.iload_n 1, 1) := by decide +kernel
theorem dX5_now_36 : decode cX5_now 36 = .ok (.iconst 1, 1) := by decide +kernel
theorem dX5_now_37 : decode cX5_now 37 = .ok (.if_icmp .ne 12, 3) := by decide +kernel
theorem dX5_now_40 : decode cX5_now 40 = .ok (.aload_n 0, 1) := by decide +kernel
theorem dX5_now_41 : decode cX5_now 41 = .ok (.getfield 22, 3) := by decide +kernel
theorem dX5_now_44 : decode cX5_now 44 = .ok (.iconst 1, 1) := by decide +kernel
theorem dX5_now_45 : decode cX5_now 45 = .ok (.iaload, 1) := by decide +kernel
theorem dX5_now_46 : decode cX5_now 46 = .ok (.goto 9, 3) := by decide +kernel
theorem dX5_now_49 : decode cX5_now 49 = .ok (.aload_n 0, 1) := by decide +kernel
theorem dX5_now_50 : decode cX5_now 50 = .ok (.getfield 22, 3) := by decide +kernel
theorem dX5_now_53 : decode cX5_now 53 = .ok (.iconst 2, 1) := by decide +kernel
theorem dX5_now_54 : decode cX5_now 54 = .ok (.iaload, 1) := by decide +kernel
theorem dX5_now_55 : decode cX5_now 55 = .ok (.ireturn, 1) := by decide +kernel
theorem dX5_now_56 : decode cX5_now 56 = .ok (.iload_n 1, 1) := by decide +kernel
theorem dX5_now_57 : decode cX5_now 57 = .ok (.iconst 3, 1) := by decide +kernel
theorem dX5_now_58 : decode cX5_now 58 = .ok (.if_icmp .ne 14, 3) := by decide +kernel
theorem dX5_now_61 : decode cX5_now 61 = .ok (.aload_n 0, 1) := by decide +kernel
theorem dX5_now_62 : decode cX5_now 62 = .ok (.aload_n 0, 1) := by decide +kernel
theorem dX5_now_63 : decode cX5_now 63 = .ok (.getfield 22, 3) := by decide +kernel
theorem dX5_now_66 : decode cX5_now 66 = .ok (.invokevirtual 155, 3) := by decide +kernel
theorem dX5_now_69 : decode cX5_now 69 = .ok (.goto 35, 3) := by decide +kernel
theorem dX5_now_72 : decode cX5_now 72 = .ok (.iload_n 1, 1) := by decide +kernel
theorem dX5_now_73 : decode cX5_now 73 = .ok (.iconst 4, 1) := by decide +kernel
theorem dX5_now_74 : decode cX5_now 74 = .ok (.if_icmp .ne 14, 3) := by decide +kernel
theorem dX5_now_77 : decode cX5_now 77 = .ok (.aload_n 0, 1) := by decide +kernel
theorem dX5_now_78 : decode cX5_now 78 = .ok (.aload_n 0, 1) := by decide +kernel
theorem dX5_now_79 : decode cX5_now 79 = .ok (.getfield 22, 3) := by decide +kernel
theorem dX5_now_82 : decode cX5_now 82 = .ok (.invokevirtual 138, 3) := by decide +kernel
theorem dX5_now_85 : decode cX5_now 85 = .ok (.goto 19, 3) := by decide +kernel
theorem dX5_now_88 : decode cX5_now 88 = .ok (.iload_n 1, 1) := by decide +kernel
theorem dX5_now_89 : decode cX5_now 89 = .ok (.iconst 5, 1) := by decide +kernel
theorem dX5_now_90 : decode cX5_now 90 = .ok (.if_icmp .ne 10, 3) := by decide +kernel
theorem dX5_now_93 : decode cX5_now 93 = .ok (.aload_n 0, 1) := by decide +kernel
theorem dX5_now_94 : decode cX5_now 94 = .ok (.invokevirtual 162, 3) := by decide +kernel
theorem dX5_now_97 : decode cX5_now 97 = .ok (.goto 7, 3) := by decide +kernel
theorem dX5_now_100 : decode cX5_now 100 = .ok (.aload_n 0, 1) := by decide +kernel
theorem dX5_now_101 : decode cX5_now 101 = .ok (.getfield 121, 3) := by decide +kernel
theorem dX5_now_104 : decode cX5_now 104 = .ok (.ireturn, 1) := by decide +kernel
theorem dX5_notes_0 : decode cX5_notes 0 = .ok (.aload_n 0, 1) := by decide +kernel
theorem dX5_notes_1 : decode cX5_notes 1 = .ok (.getfield 121, 3) := by decide +kernel
theorem dX5_notes_4 : decode cX5_notes 4 = .ok (.bipush 10, 2) := by decide +kernel
theorem dX5_notes_6 : decode cX5_notes 6 = .ok (.if_icmp .ne 39, 3) := by decide +kernel
theorem dX5_notes_9 : decode cX5_notes 9 = .ok (.iconst 0, 1) := by decide +kernel
theorem dX5_notes_10 : decode cX5_notes 10 = .ok (.istore_n 1, 1) := by decide +kernel
theorem dX5_notes_11 : decode cX5_notes 11 = .ok (.iload_n 1, 1) := by decide +kernel
theorem dX5_notes_12 : decode cX5_notes 12 = .ok (.sipush 171, 3) := by decide +kernel
theorem dX5_notes_15 : decode cX5_notes 15 = .ok (.if_icmp .ge 24, 3) := by decide +kernel
theorem dX5_notes_18 : decode cX5_notes 18 = .ok (.aload_n 0, 1) := by decide +kernel
theorem dX5_notes_19 : decode cX5_notes 19 = .ok (.getfield 35, 3) := by decide +kernel
theorem dX5_notes_22 : decode cX5_notes 22 = .ok (.iload_n 1, 1) := by decide +kernel
theorem dX5_notes_23 : decode cX5_notes 23 = .ok (.aload_n 0, 1) := by decide +kernel
theorem dX5_notes_24 : decode cX5_notes 24 = .ok (.getfield 35, 3) := by decide +kernel
theorem dX5_notes_27 : decode cX5_notes 27 = .ok (.iload_n 1, 1) := by decide +kernel
theorem dX5_notes_28 : decode cX5_notes 28 = .ok (.bipush 19, 2) := by decide +kernel
theorem dX5_notes_30 : decode cX5_notes 30 = .ok (.iadd, 1) := by decide +kernel
theorem dX5_notes_31 : decode cX5_notes 31 = .ok (.iaload, 1) := by decide +kernel
theorem dX5_notes_32 : decode cX5_notes 32 = .ok (.iastore, 1) := by decide +kernel
theorem dX5_notes_33 : decode cX5_notes 33 = .ok (.iinc 1 1, 3) := by decide +kernel
theorem dX5_notes_36 : decode cX5_notes 36 = .ok (.goto (-25), 3) := by decide +kernel
theorem dX5_notes_39 : decode cX5_notes 39 = .ok (.aload_n 0, 1) := by decide +kernel
theorem dX5_notes_40 : decode cX5_notes 40 = .ok (.bipush 9, 2) := by decide +kernel
theorem dX5_notes_42 : decode cX5_notes 42 = .ok (.putfield 121, 3) := by decide +kernel
theorem dX5_notes_45 : decode cX5_notes 45 = .ok (.iconst 0, 1) := by decide +kernel
theorem dX5_notes_46 : decode cX5_notes 46 = .ok (.istore_n 1, 1) := by decide +kernel
theorem dX5_notes_47 : decode cX5_notes 47 = .ok (.iload_n 1, 1) := by decide +kernel
theorem dX5_notes_48 : decode cX5_notes 48 = .ok (.bipush 19, 2) := by decide +kernel
theorem dX5_notes_50 : decode cX5_notes 50 = .ok (.if_icmp .ge 29, 3) := by decide +kernel
theorem dX5_notes_53 : decode cX5_notes 53 = .ok (.aload_n 0, 1) := by decide +kernel
theorem dX5_notes_54 : decode cX5_notes 54 = .ok (.getfield 35, 3) := by decide +kernel
theorem dX5_notes_57 : decode cX5_notes 57 = .ok (.bipush 19, 2) := by decide +kernel
theorem dX5_notes_59 : decode cX5_notes 59 = .ok (.aload_n 0, 1) := by decide +kernel
theorem dX5_notes_60 : decode cX5_notes 60 = .ok (.getfield 121, 3) := by decide +kernel
theorem dX5_notes_63 : decode cX5_notes 63 = .ok (.imul, 1) := by decide +kernel
theorem dX5_notes_64 : decode cX5_notes 64 = .ok (.iload_n 1, 1) := by decide +kernel
theorem dX5_notes_65 : decode cX5_notes 65 = .ok (.iadd, 1) := by decide +kernel
theorem dX5_notes_66 : decode cX5_notes 66 = .ok (.aload_n 0, 1) := by decide +kernel
theorem dX5_notes_67 : decode cX5_notes 67 = .ok (.getfield 22, 3) := by decide +kernel
theorem dX5_notes_70 : decode cX5_notes 70 = .ok (.iload_n 1, 1) := by decide +kernel
theorem dX5_notes_71 : decode cX5_notes 71 = .ok (.iaload, 1) := by decide +kernel
theorem dX5_notes_72 : decode cX5_notes 72 = .ok (.iastore, 1) := by decide +kernel
theorem dX5_notes_73 : decode cX5_notes 73 = .ok (.iinc 1 1, 3) := by decide +kernel
theorem dX5_notes_76 : decode cX5_notes 76 = .ok (.goto (-29), 3) := by decide +kernel
theorem dX5_notes_79 : decode cX5_notes 79 = .ok (.aload_n 0, 1) := by decide +kernel
theorem dX5_notes_80 : decode cX5_notes 80 = .ok (.dup, 1) := by decide +kernel
theorem dX5_notes_81 : decode cX5_notes 81 = .ok (.getfield 121, 3) := by decide +kernel
theorem dX5_notes_84 : decode cX5_notes 84 = .ok (.iconst 1, 1) := by decide +kernel
theorem dX5_notes_85 : decode cX5_notes 85 = .ok (.iadd, 1) := by decide +kernel
theorem dX5_notes_86 : decode cX5_notes 86 = .ok (.putfield 121, 3) := by decide +kernel
theorem dX5_notes_89 : decode cX5_notes 89 = .ok (.return_, 1) := by decide +kernel
theorem dX5_blows_0 : decode cX5_blows 0 = .ok (.aload_n 0, 1) := by decide +kernel
theorem dX5_blows_1 : decode cX5_blows 1 = .ok (.iconst 0, 1) := by decide +kernel
theorem dX5_blows_2 : decode cX5_blows 2 = .ok (.putfield 54, 3) := by decide +kernel
theorem dX5_blows_5 : decode cX5_blows 5 = .ok (.aload_n 0, 1) := by decide +kernel
theorem dX5_blows_6 : decode cX5_blows 6 = .ok (.iload_n 1, 1) := by decide +kernel
theorem dX5_blows_7 : decode cX5_blows 7 = .ok (.invokevirtual 158, 3) := by decide +kernel
theorem dX5_blows_10 : decode cX5_blows 10 = .ok (.ifCond .eq 13, 3) := by decide +kernel
theorem dX5_blows_13 : decode cX5_blows 13 = .ok (.iload_n 2, 1) := by decide +kernel
theorem dX5_blows_14 : decode cX5_blows 14 = .ok (.iconst 1, 1) := by decide +kernel
theorem dX5_blows_15 : decode cX5_blows 15 = .ok (.bipush 9, 2) := by decide +kernel
theorem dX5_blows_17 : decode cX5_blows 17 = .ok (.invokestatic 57, 3) := by decide +kernel
theorem dX5_blows_20 : decode cX5_blows 20 = .ok (.ifCond .ne 5, 3) := by decide +kernel
theorem dX5_blows_23 : decode cX5_blows 23 = .ok (.iconst (-1), 1) := by decide +kernel
theorem dX5_blows_24 : decode cX5_blows 24 = .ok (.ireturn, 1) := by decide +kernel
theorem dX5_blows_25 : decode cX5_blows 25 = .ok (.aload_n 0, 1) := by decide +kernel
theorem dX5_blows_26 : decode cX5_blows 26 = .ok (.getfield 22, 3) := by decide +kernel
theorem dX5_blows_29 : decode cX5_blows 29 = .ok (.iconst 0, 1) := by decide +kernel
theorem dX5_blows_30 : decode cX5_blows 30 = .ok (.iaload, 1) := by decide +kernel
theorem dX5_blows_31 : decode cX5_blows 31 = .ok (.sipush 999, 3) := by decide +kernel
theorem dX5_blows_34 : decode cX5_blows 34 = .ok (.if_icmp .ne 6, 3) := by decide +kernel
theorem dX5_blows_37 : decode cX5_blows 37 = .ok (.bipush (-2), 2) := by decide +kernel
theorem dX5_blows_39 : decode cX5_blows 39 = .ok (.ireturn, 1) := by decide +kernel
theorem dX5_blows_40 : decode cX5_blows 40 = .ok (.aload_n 0, 1) := by decide +kernel
theorem dX5_blows_41 : decode cX5_blows 41 = .ok (.invokevirtual 166, 3) := by decide +kernel
theorem dX5_blows_44 : decode cX5_blows 44 = .ok (.aload_n 0, 1) := by decide +kernel
theorem dX5_blows_45 : decode cX5_blows 45 = .ok (.aload_n 0, 1) := by decide +kernel
theorem dX5_blows_46 : decode cX5_blows 46 = .ok (.getfield 22, 3) := by decide +kernel
theorem dX5_blows_49 : decode cX5_blows 49 = .ok (.iload_n 1, 1) := by decide +kernel
theorem dX5_blows_50 : decode cX5_blows 50 = .ok (.iload_n 2, 1) := by decide +kernel
theorem dX5_blows_51 : decode cX5_blows 51 = .ok (.invokevirtual 142, 3) := by decide +kernel
theorem dX5_blows_54 : decode cX5_blows 54 = .ok (.ireturn, 1) := by decide +kernel
theorem dX5_calms_0 : decode cX5_calms 0 = .ok (.aload_n 0, 1) := by decide +kernel
theorem dX5_calms_1 : decode cX5_calms 1 = .ok (.iconst 0, 1) := by decide +kernel
theorem dX5_calms_2 : decode cX5_calms 2 = .ok (.putfield 54, 3) := by decide +kernel
theorem dX5_calms_5 : decode cX5_calms 5 = .ok (.aload_n 0, 1) := by decide +kernel
theorem dX5_calms_6 : decode cX5_calms 6 = .ok (.getfield 115, 3) := by decide +kernel
theorem dX5_calms_9 : decode cX5_calms 9 = .ok (.ifCond .eq 15, 3) := by decide +kernel
theorem dX5_calms_12 : decode cX5_calms 12 = .ok (.aload_n 0, 1) := by decide +kernel
theorem dX5_calms_13 : decode cX5_calms 13 = .ok (.getfield 22, 3) := by decide +kernel
theorem dX5_calms_16 : decode cX5_calms 16 = .ok (.iconst 0, 1) := by decide +kernel
theorem dX5_calms_17 : decode cX5_calms 17 = .ok (.iaload, 1) := by decide +kernel
theorem dX5_calms_18 : decode cX5_calms 18 = .ok (.sipush 999, 3) := by decide +kernel
theorem dX5_calms_21 : decode cX5_calms 21 = .ok (.if_icmp .ne 6, 3) := by decide +kernel
theorem dX5_calms_24 : decode cX5_calms 24 = .ok (.bipush (-2), 2) := by decide +kernel
theorem dX5_calms_26 : decode cX5_calms 26 = .ok (.ireturn, 1) := by decide +kernel
theorem dX5_calms_27 : decode cX5_calms 27 = .ok (.aload_n 0, 1) := by decide +kernel
theorem dX5_calms_28 : decode cX5_calms 28 = .ok (.invokevirtual 166, 3) := by decide +kernel
theorem dX5_calms_31 : decode cX5_calms 31 = .ok (.aload_n 0, 1) := by decide +kernel
theorem dX5_calms_32 : decode cX5_calms 32 = .ok (.aload_n 0, 1) := by decide +kernel
theorem dX5_calms_33 : decode cX5_calms 33 = .ok (.getfield 22, 3) := by decide +kernel
theorem dX5_calms_36 : decode cX5_calms 36 = .ok (.iconst 0, 1) := by decide +kernel
theorem dX5_calms_37 : decode cX5_calms 37 = .ok (.iconst 0, 1) := by decide +kernel
theorem dX5_calms_38 : decode cX5_calms 38 = .ok (.invokevirtual 142, 3) := by decide +kernel
theorem dX5_calms_41 : decode cX5_calms 41 = .ok (.ireturn, 1) := by decide +kernel
theorem dX5_trades_0 : decode cX5_trades 0 = .ok (.aload_n 1, 1) := by decide +kernel
theorem dX5_trades_1 : decode cX5_trades 1 = .ok (.iconst 3, 1) := by decide +kernel
theorem dX5_trades_2 : decode cX5_trades 2 = .ok (.iload_n 2, 1) := by decide +kernel
theorem dX5_trades_3 : decode cX5_trades 3 = .ok (.iadd, 1) := by decide +kernel
theorem dX5_trades_4 : decode cX5_trades 4 = .ok (.iaload, 1) := by decide +kernel
theorem dX5_trades_5 : decode cX5_trades 5 = .ok (.istore 4, 2) := by decide +kernel
theorem dX5_trades_7 : decode cX5_trades 7 = .ok (.aload_n 1, 1) := by decide +kernel
theorem dX5_trades_8 : decode cX5_trades 8 = .ok (.iconst 3, 1) := by decide +kernel
theorem dX5_trades_9 : decode cX5_trades 9 = .ok (.iload_n 2, 1) := by decide +kernel
theorem dX5_trades_10 : decode cX5_trades 10 = .ok (.iadd, 1) := by decide +kernel
theorem dX5_trades_11 : decode cX5_trades 11 = .ok (.aload_n 1, 1) := by decide +kernel
theorem dX5_trades_12 : decode cX5_trades 12 = .ok (.iconst 3, 1) := by decide +kernel
theorem dX5_trades_13 : decode cX5_trades 13 = .ok (.iload_n 3, 1) := by decide +kernel
theorem dX5_trades_14 : decode cX5_trades 14 = .ok (.iadd, 1) := by decide +kernel
theorem dX5_trades_15 : decode cX5_trades 15 = .ok (.iaload, 1) := by decide +kernel
theorem dX5_trades_16 : decode cX5_trades 16 = .ok (.iastore, 1) := by decide +kernel
theorem dX5_trades_17 : decode cX5_trades 17 = .ok (.aload_n 1, 1) := by decide +kernel
theorem dX5_trades_18 : decode cX5_trades 18 = .ok (.iconst 3, 1) := by decide +kernel
theorem dX5_trades_19 : decode cX5_trades 19 = .ok (.iload_n 3, 1) := by decide +kernel
theorem dX5_trades_20 : decode cX5_trades 20 = .ok (.iadd, 1) := by decide +kernel
theorem dX5_trades_21 : decode cX5_trades 21 = .ok (.iload 4, 2) := by decide +kernel
theorem dX5_trades_23 : decode cX5_trades 23 = .ok (.iastore, 1) := by decide +kernel
theorem dX5_trades_24 : decode cX5_trades 24 = .ok (.return_, 1) := by decide +kernel
theorem dX5_changes_0 : decode cX5_changes 0 = .ok (.aload_n 0, 1) := by decide +kernel
theorem dX5_changes_1 : decode cX5_changes 1 = .ok (.iconst 0, 1) := by decide +kernel
theorem dX5_changes_2 : decode cX5_changes 2 = .ok (.putfield 54, 3) := by decide +kernel
theorem dX5_changes_5 : decode cX5_changes 5 = .ok (.aload_n 0, 1) := by decide +kernel
theorem dX5_changes_6 : decode cX5_changes 6 = .ok (.iload_n 1, 1) := by decide +kernel
theorem dX5_changes_7 : decode cX5_changes 7 = .ok (.invokevirtual 158, 3) := by decide +kernel
theorem dX5_changes_10 : decode cX5_changes 10 = .ok (.ifCond .eq 16, 3) := by decide +kernel
theorem dX5_changes_13 : decode cX5_changes 13 = .ok (.aload_n 0, 1) := by decide +kernel
theorem dX5_changes_14 : decode cX5_changes 14 = .ok (.iload_n 2, 1) := by decide +kernel
theorem dX5_changes_15 : decode cX5_changes 15 = .ok (.invokevirtual 158, 3) := by decide +kernel
theorem dX5_changes_18 : decode cX5_changes 18 = .ok (.ifCond .eq 8, 3) := by decide +kernel
theorem dX5_changes_21 : decode cX5_changes 21 = .ok (.iload_n 1, 1) := by decide +kernel
theorem dX5_changes_22 : decode cX5_changes 22 = .ok (.iload_n 2, 1) := by decide +kernel
theorem dX5_changes_23 : decode cX5_changes 23 = .ok (.if_icmp .ne 5, 3) := by decide +kernel
theorem dX5_changes_26 : decode cX5_changes 26 = .ok (.iconst (-1), 1) := by decide +kernel
theorem dX5_changes_27 : decode cX5_changes 27 = .ok (.ireturn, 1) := by decide +kernel
theorem dX5_changes_28 : decode cX5_changes 28 = .ok (.aload_n 0, 1) := by decide +kernel
theorem dX5_changes_29 : decode cX5_changes 29 = .ok (.invokevirtual 166, 3) := by decide +kernel
theorem dX5_changes_32 : decode cX5_changes 32 = .ok (.aload_n 0, 1) := by decide +kernel
theorem dX5_changes_33 : decode cX5_changes 33 = .ok (.aload_n 0, 1) := by decide +kernel
theorem dX5_changes_34 : decode cX5_changes 34 = .ok (.getfield 22, 3) := by decide +kernel
theorem dX5_changes_37 : decode cX5_changes 37 = .ok (.iload_n 1, 1) := by decide +kernel
theorem dX5_changes_38 : decode cX5_changes 38 = .ok (.iload_n 2, 1) := by decide +kernel
theorem dX5_changes_39 : decode cX5_changes 39 = .ok (.invokevirtual 169, 3) := by decide +kernel
theorem dX5_changes_42 : decode cX5_changes 42 = .ok (.aload_n 0, 1) := by decide +kernel
theorem dX5_changes_43 : decode cX5_changes 43 = .ok (.aload_n 0, 1) := by decide +kernel
theorem dX5_changes_44 : decode cX5_changes 44 = .ok (.getfield 22, 3) := by decide +kernel
theorem dX5_changes_47 : decode cX5_changes 47 = .ok (.invokevirtual 138, 3) := by decide +kernel
theorem dX5_changes_50 : decode cX5_changes 50 = .ok (.ireturn, 1) := by decide +kernel
theorem dX5_holds_0 : decode cX5_holds 0 = .ok (.aload_n 0, 1) := by decide +kernel
theorem dX5_holds_1 : decode cX5_holds 1 = .ok (.iconst 0, 1) := by decide +kernel
theorem dX5_holds_2 : decode cX5_holds 2 = .ok (.putfield 54, 3) := by decide +kernel
theorem dX5_holds_5 : decode cX5_holds 5 = .ok (.aload_n 0, 1) := by decide +kernel
theorem dX5_holds_6 : decode cX5_holds 6 = .ok (.iload_n 1, 1) := by decide +kernel
theorem dX5_holds_7 : decode cX5_holds 7 = .ok (.invokevirtual 158, 3) := by decide +kernel
theorem dX5_holds_10 : decode cX5_holds 10 = .ok (.ifCond .ne 5, 3) := by decide +kernel
theorem dX5_holds_13 : decode cX5_holds 13 = .ok (.iconst (-1), 1) := by decide +kernel
theorem dX5_holds_14 : decode cX5_holds 14 = .ok (.ireturn, 1) := by decide +kernel
theorem dX5_holds_15 : decode cX5_holds 15 = .ok (.aload_n 0, 1) := by decide +kernel
theorem dX5_holds_16 : decode cX5_holds 16 = .ok (.getfield 22, 3) := by decide +kernel
theorem dX5_holds_19 : decode cX5_holds 19 = .ok (.bipush 11, 2) := by decide +kernel
theorem dX5_holds_21 : decode cX5_holds 21 = .ok (.iload_n 1, 1) := by decide +kernel
theorem dX5_holds_22 : decode cX5_holds 22 = .ok (.iadd, 1) := by decide +kernel
theorem dX5_holds_23 : decode cX5_holds 23 = .ok (.iaload, 1) := by decide +kernel
theorem dX5_holds_24 : decode cX5_holds 24 = .ok (.istore_n 2, 1) := by decide +kernel
theorem dX5_holds_25 : decode cX5_holds 25 = .ok (.iload_n 2, 1) := by decide +kernel
theorem dX5_holds_26 : decode cX5_holds 26 = .ok (.ifCond .ne 6, 3) := by decide +kernel
theorem dX5_holds_29 : decode cX5_holds 29 = .ok (.bipush (-2), 2) := by decide +kernel
theorem dX5_holds_31 : decode cX5_holds 31 = .ok (.ireturn, 1) := by decide +kernel
theorem dX5_holds_32 : decode cX5_holds 32 = .ok (.aload_n 0, 1) := by decide +kernel
theorem dX5_holds_33 : decode cX5_holds 33 = .ok (.invokevirtual 166, 3) := by decide +kernel
