theorem dX5_holds_36 : decode cX5_holds 36 = .ok (.aload_n 0, 1) := by decide +kernel
theorem dX5_holds_37 : decode cX5_holds 37 = .ok (.getfield 22, 3) := by decide +kernel
theorem dX5_holds_40 : decode cX5_holds 40 = .ok (.bipush 11, 2) := by decide +kernel
theorem dX5_holds_42 : decode cX5_holds 42 = .ok (.iload_n 1, 1) := by decide +kernel
theorem dX5_holds_43 : decode cX5_holds 43 = .ok (.iadd, 1) := by decide +kernel
theorem dX5_holds_44 : decode cX5_holds 44 = .ok (.iconst 0, 1) := by decide +kernel
theorem dX5_holds_45 : decode cX5_holds 45 = .ok (.iastore, 1) := by decide +kernel
theorem dX5_holds_46 : decode cX5_holds 46 = .ok (.iload_n 2, 1) := by decide +kernel
theorem dX5_holds_47 : decode cX5_holds 47 = .ok (.ireturn, 1) := by decide +kernel
theorem dX5_undo_0 : decode cX5_undo 0 = .ok (.aload_n 0, 1) := by decide +kernel
theorem dX5_undo_1 : decode cX5_undo 1 = .ok (.iconst 0, 1) := by decide +kernel
theorem dX5_undo_2 : decode cX5_undo 2 = .ok (.putfield 54, 3) := by decide +kernel
theorem dX5_undo_5 : decode cX5_undo 5 = .ok (.aload_n 0, 1) := by decide +kernel
theorem dX5_undo_6 : decode cX5_undo 6 = .ok (.getfield 121, 3) := by decide +kernel
theorem dX5_undo_9 : decode cX5_undo 9 = .ok (.ifCond .ne 6, 3) := by decide +kernel
theorem dX5_undo_12 : decode cX5_undo 12 = .ok (.bipush (-2), 2) := by decide +kernel
theorem dX5_undo_14 : decode cX5_undo 14 = .ok (.ireturn, 1) := by decide +kernel
theorem dX5_undo_15 : decode cX5_undo 15 = .ok (.aload_n 0, 1) := by decide +kernel
theorem dX5_undo_16 : decode cX5_undo 16 = .ok (.dup, 1) := by decide +kernel
theorem dX5_undo_17 : decode cX5_undo 17 = .ok (.getfield 121, 3) := by decide +kernel
theorem dX5_undo_20 : decode cX5_undo 20 = .ok (.iconst 1, 1) := by decide +kernel
theorem dX5_undo_21 : decode cX5_undo 21 = .ok (.isub, 1) := by decide +kernel
theorem dX5_undo_22 : decode cX5_undo 22 = .ok (.putfield 121, 3) := by decide +kernel
theorem dX5_undo_25 : decode cX5_undo 25 = .ok (.iconst 0, 1) := by decide +kernel
theorem dX5_undo_26 : decode cX5_undo 26 = .ok (.istore_n 1, 1) := by decide +kernel
theorem dX5_undo_27 : decode cX5_undo 27 = .ok (.iload_n 1, 1) := by decide +kernel
theorem dX5_undo_28 : decode cX5_undo 28 = .ok (.bipush 19, 2) := by decide +kernel
theorem dX5_undo_30 : decode cX5_undo 30 = .ok (.if_icmp .ge 29, 3) := by decide +kernel
theorem dX5_undo_33 : decode cX5_undo 33 = .ok (.aload_n 0, 1) := by decide +kernel
theorem dX5_undo_34 : decode cX5_undo 34 = .ok (.getfield 22, 3) := by decide +kernel
theorem dX5_undo_37 : decode cX5_undo 37 = .ok (.iload_n 1, 1) := by decide +kernel
theorem dX5_undo_38 : decode cX5_undo 38 = .ok (.aload_n 0, 1) := by decide +kernel
theorem dX5_undo_39 : decode cX5_undo 39 = .ok (.getfield 35, 3) := by decide +kernel
theorem dX5_undo_42 : decode cX5_undo 42 = .ok (.bipush 19, 2) := by decide +kernel
theorem dX5_undo_44 : decode cX5_undo 44 = .ok (.aload_n 0, 1) := by decide +kernel
theorem dX5_undo_45 : decode cX5_undo 45 = .ok (.getfield 121, 3) := by decide +kernel
theorem dX5_undo_48 : decode cX5_undo 48 = .ok (.imul, 1) := by decide +kernel
theorem dX5_undo_49 : decode cX5_undo 49 = .ok (.iload_n 1, 1) := by decide +kernel
theorem dX5_undo_50 : decode cX5_undo 50 = .ok (.iadd, 1) := by decide +kernel
theorem dX5_undo_51 : decode cX5_undo 51 = .ok (.iaload, 1) := by decide +kernel
theorem dX5_undo_52 : decode cX5_undo 52 = .ok (.iastore, 1) := by decide +kernel
theorem dX5_undo_53 : decode cX5_undo 53 = .ok (.iinc 1 1, 3) := by decide +kernel
theorem dX5_undo_56 : decode cX5_undo 56 = .ok (.goto (-29), 3) := by decide +kernel
theorem dX5_undo_59 : decode cX5_undo 59 = .ok (.aload_n 0, 1) := by decide +kernel
theorem dX5_undo_60 : decode cX5_undo 60 = .ok (.getfield 121, 3) := by decide +kernel
theorem dX5_undo_63 : decode cX5_undo 63 = .ok (.ireturn, 1) := by decide +kernel
theorem dX5_comes_0 : decode cX5_comes 0 = .ok (.aload_n 0, 1) := by decide +kernel
theorem dX5_comes_1 : decode cX5_comes 1 = .ok (.iconst 0, 1) := by decide +kernel
theorem dX5_comes_2 : decode cX5_comes 2 = .ok (.putfield 54, 3) := by decide +kernel
theorem dX5_comes_5 : decode cX5_comes 5 = .ok (.iload_n 1, 1) := by decide +kernel
theorem dX5_comes_6 : decode cX5_comes 6 = .ok (.iconst 0, 1) := by decide +kernel
theorem dX5_comes_7 : decode cX5_comes 7 = .ok (.bipush 20, 2) := by decide +kernel
theorem dX5_comes_9 : decode cX5_comes 9 = .ok (.invokestatic 57, 3) := by decide +kernel
theorem dX5_comes_12 : decode cX5_comes 12 = .ok (.ifCond .eq 12, 3) := by decide +kernel
theorem dX5_comes_15 : decode cX5_comes 15 = .ok (.iload_n 2, 1) := by decide +kernel
theorem dX5_comes_16 : decode cX5_comes 16 = .ok (.iconst 0, 1) := by decide +kernel
theorem dX5_comes_17 : decode cX5_comes 17 = .ok (.iconst 1, 1) := by decide +kernel
theorem dX5_comes_18 : decode cX5_comes 18 = .ok (.invokestatic 57, 3) := by decide +kernel
theorem dX5_comes_21 : decode cX5_comes 21 = .ok (.ifCond .ne 5, 3) := by decide +kernel
theorem dX5_comes_24 : decode cX5_comes 24 = .ok (.iconst (-1), 1) := by decide +kernel
theorem dX5_comes_25 : decode cX5_comes 25 = .ok (.ireturn, 1) := by decide +kernel
theorem dX5_comes_26 : decode cX5_comes 26 = .ok (.aload_n 0, 1) := by decide +kernel
theorem dX5_comes_27 : decode cX5_comes 27 = .ok (.invokevirtual 149, 3) := by decide +kernel
theorem dX5_comes_30 : decode cX5_comes 30 = .ok (.aload_n 0, 1) := by decide +kernel
theorem dX5_comes_31 : decode cX5_comes 31 = .ok (.aload_n 0, 1) := by decide +kernel
theorem dX5_comes_32 : decode cX5_comes 32 = .ok (.aload_n 0, 1) := by decide +kernel
theorem dX5_comes_33 : decode cX5_comes 33 = .ok (.getfield 25, 3) := by decide +kernel
theorem dX5_comes_36 : decode cX5_comes 36 = .ok (.invokevirtual 138, 3) := by decide +kernel
theorem dX5_comes_39 : decode cX5_comes 39 = .ok (.putfield 135, 3) := by decide +kernel
theorem dX5_comes_42 : decode cX5_comes 42 = .ok (.aload_n 0, 1) := by decide +kernel
theorem dX5_comes_43 : decode cX5_comes 43 = .ok (.iload_n 1, 1) := by decide +kernel
theorem dX5_comes_44 : decode cX5_comes 44 = .ok (.invokevirtual 152, 3) := by decide +kernel
theorem dX5_comes_47 : decode cX5_comes 47 = .ok (.iload_n 2, 1) := by decide +kernel
theorem dX5_comes_48 : decode cX5_comes 48 = .ok (.ifCond .ne 10, 3) := by decide +kernel
theorem dX5_comes_51 : decode cX5_comes 51 = .ok (.aload_n 0, 1) := by decide +kernel
theorem dX5_comes_52 : decode cX5_comes 52 = .ok (.getfield 132, 3) := by decide +kernel
theorem dX5_comes_55 : decode cX5_comes 55 = .ok (.goto 7, 3) := by decide +kernel
theorem dX5_comes_58 : decode cX5_comes 58 = .ok (.aload_n 0, 1) := by decide +kernel
theorem dX5_comes_59 : decode cX5_comes 59 = .ok (.getfield 135, 3) := by decide +kernel
theorem dX5_comes_62 : decode cX5_comes 62 = .ok (.ireturn, 1) := by decide +kernel
theorem dX5_best_0 : decode cX5_best 0 = .ok (.aload_n 0, 1) := by decide +kernel
theorem dX5_best_1 : decode cX5_best 1 = .ok (.iconst 0, 1) := by decide +kernel
theorem dX5_best_2 : decode cX5_best 2 = .ok (.putfield 54, 3) := by decide +kernel
theorem dX5_best_5 : decode cX5_best 5 = .ok (.iload_n 1, 1) := by decide +kernel
theorem dX5_best_6 : decode cX5_best 6 = .ok (.iconst 0, 1) := by decide +kernel
theorem dX5_best_7 : decode cX5_best 7 = .ok (.bipush 20, 2) := by decide +kernel
theorem dX5_best_9 : decode cX5_best 9 = .ok (.invokestatic 57, 3) := by decide +kernel
theorem dX5_best_12 : decode cX5_best 12 = .ok (.ifCond .eq 12, 3) := by decide +kernel
theorem dX5_best_15 : decode cX5_best 15 = .ok (.iload_n 2, 1) := by decide +kernel
theorem dX5_best_16 : decode cX5_best 16 = .ok (.iconst 0, 1) := by decide +kernel
theorem dX5_best_17 : decode cX5_best 17 = .ok (.iconst 1, 1) := by decide +kernel
theorem dX5_best_18 : decode cX5_best 18 = .ok (.invokestatic 57, 3) := by decide +kernel
theorem dX5_best_21 : decode cX5_best 21 = .ok (.ifCond .ne 5, 3) := by decide +kernel
theorem dX5_best_24 : decode cX5_best 24 = .ok (.iconst (-1), 1) := by decide +kernel
theorem dX5_best_25 : decode cX5_best 25 = .ok (.ireturn, 1) := by decide +kernel
theorem dX5_best_26 : decode cX5_best 26 = .ok (.bipush (-9), 2) := by decide +kernel
theorem dX5_best_28 : decode cX5_best 28 = .ok (.istore_n 3, 1) := by decide +kernel
theorem dX5_best_29 : decode cX5_best 29 = .ok (.iconst (-1), 1) := by decide +kernel
theorem dX5_best_30 : decode cX5_best 30 = .ok (.istore 4, 2) := by decide +kernel
theorem dX5_best_32 : decode cX5_best 32 = .ok (.bipush (-9), 2) := by decide +kernel
theorem dX5_best_34 : decode cX5_best 34 = .ok (.istore 5, 2) := by decide +kernel
theorem dX5_best_36 : decode cX5_best 36 = .ok (.bipush 99, 2) := by decide +kernel
theorem dX5_best_38 : decode cX5_best 38 = .ok (.istore 6, 2) := by decide +kernel
theorem dX5_best_40 : decode cX5_best 40 = .ok (.iconst 0, 1) := by decide +kernel
theorem dX5_best_41 : decode cX5_best 41 = .ok (.istore 7, 2) := by decide +kernel
theorem dX5_best_43 : decode cX5_best 43 = .ok (.iload 7, 2) := by decide +kernel
theorem dX5_best_45 : decode cX5_best 45 = .ok (.bipush 10, 2) := by decide +kernel
theorem dX5_best_47 : decode cX5_best 47 = .ok (.aload_n 0, 1) := by decide +kernel
theorem dX5_best_48 : decode cX5_best 48 = .ok (.getfield 115, 3) := by decide +kernel
theorem dX5_best_51 : decode cX5_best 51 = .ok (.imul, 1) := by decide +kernel
theorem dX5_best_52 : decode cX5_best 52 = .ok (.if_icmp .ge 135, 3) := by decide +kernel
theorem dX5_best_55 : decode cX5_best 55 = .ok (.iload 7, 2) := by decide +kernel
theorem dX5_best_57 : decode cX5_best 57 = .ok (.bipush 10, 2) := by decide +kernel
theorem dX5_best_59 : decode cX5_best 59 = .ok (.irem, 1) := by decide +kernel
theorem dX5_best_60 : decode cX5_best 60 = .ok (.ifCond .le 121, 3) := by decide +kernel
theorem dX5_best_63 : decode cX5_best 63 = .ok (.aload_n 0, 1) := by decide +kernel
theorem dX5_best_64 : decode cX5_best 64 = .ok (.iload 7, 2) := by decide +kernel
theorem dX5_best_66 : decode cX5_best 66 = .ok (.bipush 10, 2) := by decide +kernel
theorem dX5_best_68 : decode cX5_best 68 = .ok (.idiv, 1) := by decide +kernel
theorem dX5_best_69 : decode cX5_best 69 = .ok (.iload 7, 2) := by decide +kernel
theorem dX5_best_71 : decode cX5_best 71 = .ok (.bipush 10, 2) := by decide +kernel
theorem dX5_best_73 : decode cX5_best 73 = .ok (.irem, 1) := by decide +kernel
theorem dX5_best_74 : decode cX5_best 74 = .ok (.iload_n 1, 1) := by decide +kernel
theorem dX5_best_75 : decode cX5_best 75 = .ok (.invokevirtual 173, 3) := by decide +kernel
theorem dX5_best_78 : decode cX5_best 78 = .ok (.aload_n 0, 1) := by decide +kernel
theorem dX5_best_79 : decode cX5_best 79 = .ok (.getfield 132, 3) := by decide +kernel
theorem dX5_best_82 : decode cX5_best 82 = .ok (.invokestatic 177, 3) := by decide +kernel
theorem dX5_best_85 : decode cX5_best 85 = .ok (.iload 4, 2) := by decide +kernel
theorem dX5_best_87 : decode cX5_best 87 = .ok (.if_icmp .le 7, 3) := by decide +kernel
theorem dX5_best_90 : decode cX5_best 90 = .ok (.iconst 1, 1) := by decide +kernel
theorem dX5_best_91 : decode cX5_best 91 = .ok (.goto 4, 3) := by decide +kernel
theorem dX5_best_94 : decode cX5_best 94 = .ok (.iconst 0, 1) := by decide +kernel
theorem dX5_best_95 : decode cX5_best 95 = .ok (.istore 8, 2) := by decide +kernel
theorem dX5_best_97 : decode cX5_best 97 = .ok (.iload 8, 2) := by decide +kernel
theorem dX5_best_99 : decode cX5_best 99 = .ok (.ifCond .eq 8, 3) := by decide +kernel
theorem dX5_best_102 : decode cX5_best 102 = .ok (.iload 7, 2) := by decide +kernel
theorem dX5_best_104 : decode cX5_best 104 = .ok (.goto 4, 3) := by decide +kernel
theorem dX5_best_107 : decode cX5_best 107 = .ok (.iload_n 3, 1) := by decide +kernel
theorem dX5_best_108 : decode cX5_best 108 = .ok (.istore_n 3, 1) := by decide +kernel
theorem dX5_best_109 : decode cX5_best 109 = .ok (.iload 8, 2) := by decide +kernel
theorem dX5_best_111 : decode cX5_best 111 = .ok (.ifCond .eq 13, 3) := by decide +kernel
theorem dX5_best_114 : decode cX5_best 114 = .ok (.aload_n 0, 1) := by decide +kernel
theorem dX5_best_115 : decode cX5_best 115 = .ok (.getfield 132, 3) := by decide +kernel
theorem dX5_best_118 : decode cX5_best 118 = .ok (.invokestatic 177, 3) := by decide +kernel
theorem dX5_best_121 : decode cX5_best 121 = .ok (.goto 5, 3) := by decide +kernel
theorem dX5_best_124 : decode cX5_best 124 = .ok (.iload 4, 2) := by decide +kernel
theorem dX5_best_126 : decode cX5_best 126 = .ok (.istore 4, 2) := by decide +kernel
theorem dX5_best_128 : decode cX5_best 128 = .ok (.aload_n 0, 1) := by decide +kernel
theorem dX5_best_129 : decode cX5_best 129 = .ok (.getfield 132, 3) := by decide +kernel
theorem dX5_best_132 : decode cX5_best 132 = .ok (.ifCond .eq 16, 3) := by decide +kernel
theorem dX5_best_135 : decode cX5_best 135 = .ok (.aload_n 0, 1) := by decide +kernel
theorem dX5_best_136 : decode cX5_best 136 = .ok (.getfield 135, 3) := by decide +kernel
theorem dX5_best_139 : decode cX5_best 139 = .ok (.iload 6, 2) := by decide +kernel
theorem dX5_best_141 : decode cX5_best 141 = .ok (.if_icmp .ge 7, 3) := by decide +kernel
theorem dX5_best_144 : decode cX5_best 144 = .ok (.iconst 1, 1) := by decide +kernel
theorem dX5_best_145 : decode cX5_best 145 = .ok (.goto 4, 3) := by decide +kernel
theorem dX5_best_148 : decode cX5_best 148 = .ok (.iconst 0, 1) := by decide +kernel
theorem dX5_best_149 : decode cX5_best 149 = .ok (.istore 9, 2) := by decide +kernel
theorem dX5_best_151 : decode cX5_best 151 = .ok (.iload 9, 2) := by decide +kernel
theorem dX5_best_153 : decode cX5_best 153 = .ok (.ifCond .eq 8, 3) := by decide +kernel
theorem dX5_best_156 : decode cX5_best 156 = .ok (.iload 7, 2) := by decide +kernel
theorem dX5_best_158 : decode cX5_best 158 = .ok (.goto 5, 3) := by decide +kernel
theorem dX5_best_161 : decode cX5_best 161 = .ok (.iload 5, 2) := by decide +kernel
theorem dX5_best_163 : decode cX5_best 163 = .ok (.istore 5, 2) := by decide +kernel
theorem dX5_best_165 : decode cX5_best 165 = .ok (.iload 9, 2) := by decide +kernel
theorem dX5_best_167 : decode cX5_best 167 = .ok (.ifCond .eq 10, 3) := by decide +kernel
theorem dX5_best_170 : decode cX5_best 170 = .ok (.aload_n 0, 1) := by decide +kernel
theorem dX5_best_171 : decode cX5_best 171 = .ok (.getfield 135, 3) := by decide +kernel
theorem dX5_best_174 : decode cX5_best 174 = .ok (.goto 5, 3) := by decide +kernel
theorem dX5_best_177 : decode cX5_best 177 = .ok (.iload 6, 2) := by decide +kernel
theorem dX5_best_179 : decode cX5_best 179 = .ok (.istore 6, 2) := by decide +kernel
theorem dX5_best_181 : decode cX5_best 181 = .ok (.iinc 7 1, 3) := by decide +kernel
theorem dX5_best_184 : decode cX5_best 184 = .ok (.goto (-141), 3) := by decide +kernel
theorem dX5_best_187 : decode cX5_best 187 = .ok (.iload_n 2, 1) := by decide +kernel
theorem dX5_best_188 : decode cX5_best 188 = .ok (.ifCond .ne 7, 3) := by decide +kernel
theorem dX5_best_191 : decode cX5_best 191 = .ok (.iload_n 3, 1) := by decide +kernel
theorem dX5_best_192 : decode cX5_best 192 = .ok (.goto 5, 3) := by decide +kernel
theorem dX5_best_195 : decode cX5_best 195 = .ok (.iload 5, 2) := by decide +kernel
theorem dX5_best_197 : decode cX5_best 197 = .ok (.ireturn, 1) := by decide +kernel
theorem dX5_swap_0 : decode cX5_swap 0 = .ok (.aload_n 0, 1) := by decide +kernel
theorem dX5_swap_1 : decode cX5_swap 1 = .ok (.iconst 0, 1) := by decide +kernel
theorem dX5_swap_2 : decode cX5_swap 2 = .ok (.putfield 54, 3) := by decide +kernel
theorem dX5_swap_5 : decode cX5_swap 5 = .ok (.aload_n 0, 1) := by decide +kernel
theorem dX5_swap_6 : decode cX5_swap 6 = .ok (.iload_n 1, 1) := by decide +kernel
theorem dX5_swap_7 : decode cX5_swap 7 = .ok (.invokevirtual 158, 3) := by decide +kernel
theorem dX5_swap_10 : decode cX5_swap 10 = .ok (.ifCond .eq 23, 3) := by decide +kernel
theorem dX5_swap_13 : decode cX5_swap 13 = .ok (.iload_n 2, 1) := by decide +kernel
theorem dX5_swap_14 : decode cX5_swap 14 = .ok (.iconst 1, 1) := by decide +kernel
theorem dX5_swap_15 : decode cX5_swap 15 = .ok (.bipush 9, 2) := by decide +kernel
theorem dX5_swap_17 : decode cX5_swap 17 = .ok (.invokestatic 57, 3) := by decide +kernel
theorem dX5_swap_20 : decode cX5_swap 20 = .ok (.ifCond .eq 13, 3) := by decide +kernel
theorem dX5_swap_23 : decode cX5_swap 23 = .ok (.iload_n 3, 1) := by decide +kernel
theorem dX5_swap_24 : decode cX5_swap 24 = .ok (.iconst 0, 1) := by decide +kernel
theorem dX5_swap_25 : decode cX5_swap 25 = .ok (.bipush 20, 2) := by decide +kernel
theorem dX5_swap_27 : decode cX5_swap 27 = .ok (.invokestatic 57, 3) := by decide +kernel
theorem dX5_swap_30 : decode cX5_swap 30 = .ok (.ifCond .ne 5, 3) := by decide +kernel
theorem dX5_swap_33 : decode cX5_swap 33 = .ok (.iconst (-1), 1) := by decide +kernel
theorem dX5_swap_34 : decode cX5_swap 34 = .ok (.ireturn, 1) := by decide +kernel
theorem dX5_swap_35 : decode cX5_swap 35 = .ok (.aload_n 0, 1) := by decide +kernel
theorem dX5_swap_36 : decode cX5_swap 36 = .ok (.iload_n 1, 1) := by decide +kernel
theorem dX5_swap_37 : decode cX5_swap 37 = .ok (.iload_n 2, 1) := by decide +kernel
theorem dX5_swap_38 : decode cX5_swap 38 = .ok (.iload_n 3, 1) := by decide +kernel
theorem dX5_swap_39 : decode cX5_swap 39 = .ok (.invokevirtual 173, 3) := by decide +kernel
theorem dX5_swap_42 : decode cX5_swap 42 = .ok (.aload_n 0, 1) := by decide +kernel
theorem dX5_swap_43 : decode cX5_swap 43 = .ok (.getfield 135, 3) := by decide +kernel
theorem dX5_swap_46 : decode cX5_swap 46 = .ok (.istore 4, 2) := by decide +kernel
theorem dX5_swap_48 : decode cX5_swap 48 = .ok (.bipush (-9), 2) := by decide +kernel
theorem dX5_swap_50 : decode cX5_swap 50 = .ok (.istore 5, 2) := by decide +kernel
theorem dX5_swap_52 : decode cX5_swap 52 = .ok (.iconst 0, 1) := by decide +kernel
theorem dX5_swap_53 : decode cX5_swap 53 = .ok (.istore 6, 2) := by decide +kernel
theorem dX5_swap_55 : decode cX5_swap 55 = .ok (.iload 6, 2) := by decide +kernel
theorem dX5_swap_57 : decode cX5_swap 57 = .ok (.aload_n 0, 1) := by decide +kernel
theorem dX5_swap_58 : decode cX5_swap 58 = .ok (.getfield 115, 3) := by decide +kernel
theorem dX5_swap_61 : decode cX5_swap 61 = .ok (.if_icmp .ge 105, 3) := by decide +kernel
theorem dX5_swap_64 : decode cX5_swap 64 = .ok (.iload 6, 2) := by decide +kernel
theorem dX5_swap_66 : decode cX5_swap 66 = .ok (.iconst 1, 1) := by decide +kernel
theorem dX5_swap_67 : decode cX5_swap 67 = .ok (.iadd, 1) := by decide +kernel
theorem dX5_swap_68 : decode cX5_swap 68 = .ok (.istore 7, 2) := by decide +kernel
theorem dX5_swap_70 : decode cX5_swap 70 = .ok (.iload 7, 2) := by decide +kernel
theorem dX5_swap_72 : decode cX5_swap 72 = .ok (.aload_n 0, 1) := by decide +kernel
theorem dX5_swap_73 : decode cX5_swap 73 = .ok (.getfield 115, 3) := by decide +kernel
theorem dX5_swap_76 : decode cX5_swap 76 = .ok (.if_icmp .ge 84, 3) := by decide +kernel
theorem dX5_swap_79 : decode cX5_swap 79 = .ok (.aload_n 0, 1) := by decide +kernel
theorem dX5_swap_80 : decode cX5_swap 80 = .ok (.aload_n 0, 1) := by decide +kernel
theorem dX5_swap_81 : decode cX5_swap 81 = .ok (.getfield 22, 3) := by decide +kernel
theorem dX5_swap_84 : decode cX5_swap 84 = .ok (.iload 6, 2) := by decide +kernel
theorem dX5_swap_86 : decode cX5_swap 86 = .ok (.iload 7, 2) := by decide +kernel
theorem dX5_swap_88 : decode cX5_swap 88 = .ok (.invokevirtual 169, 3) := by decide +kernel
theorem dX5_swap_91 : decode cX5_swap 91 = .ok (.aload_n 0, 1) := by decide +kernel
theorem dX5_swap_92 : decode cX5_swap 92 = .ok (.iload_n 1, 1) := by decide +kernel
theorem dX5_swap_93 : decode cX5_swap 93 = .ok (.iload_n 2, 1) := by decide +kernel
theorem dX5_swap_94 : decode cX5_swap 94 = .ok (.iload_n 3, 1) := by decide +kernel
theorem dX5_swap_95 : decode cX5_swap 95 = .ok (.invokevirtual 173, 3) := by decide +kernel
theorem dX5_swap_98 : decode cX5_swap 98 = .ok (.aload_n 0, 1) := by decide +kernel
theorem dX5_swap_99 : decode cX5_swap 99 = .ok (.aload_n 0, 1) := by decide +kernel
theorem dX5_swap_100 : decode cX5_swap 100 = .ok (.getfield 22, 3) := by decide +kernel
theorem dX5_swap_103 : decode cX5_swap 103 = .ok (.iload 6, 2) := by decide +kernel
theorem dX5_swap_105 : decode cX5_swap 105 = .ok (.iload 7, 2) := by decide +kernel
theorem dX5_swap_107 : decode cX5_swap 107 = .ok (.invokevirtual 169, 3) := by decide +kernel
theorem dX5_swap_110 : decode cX5_swap 110 = .ok (.aload_n 0, 1) := by decide +kernel
theorem dX5_swap_111 : decode cX5_swap 111 = .ok (.getfield 135, 3) := by decide +kernel
theorem dX5_swap_114 : decode cX5_swap 114 = .ok (.iload 4, 2) := by decide +kernel
theorem dX5_swap_116 : decode cX5_swap 116 = .ok (.if_icmp .ge 14, 3) := by decide +kernel
theorem dX5_swap_119 : decode cX5_swap 119 = .ok (.bipush 10, 2) := by decide +kernel
theorem dX5_swap_121 : decode cX5_swap 121 = .ok (.iload 6, 2) := by decide +kernel
theorem dX5_swap_123 : decode cX5_swap 123 = .ok (.imul, 1) := by decide +kernel
theorem dX5_swap_124 : decode cX5_swap 124 = .ok (.iload 7, 2) := by decide +kernel
theorem dX5_swap_126 : decode cX5_swap 126 = .ok (.iadd, 1) := by decide +kernel
theorem dX5_swap_127 : decode cX5_swap 127 = .ok (.goto 5, 3) := by decide +kernel
theorem dX5_swap_130 : decode cX5_swap 130 = .ok (.iload 5, 2) := by decide +kernel
theorem dX5_swap_132 : decode cX5_swap 132 = .ok (.istore 5, 2) := by decide +kernel
theorem dX5_swap_134 : decode cX5_swap 134 = .ok (.aload_n 0, 1) := by decide +kernel
theorem dX5_swap_135 : decode cX5_swap 135 = .ok (.getfield 135, 3) := by decide +kernel
theorem dX5_swap_138 : decode cX5_swap 138 = .ok (.iload 4, 2) := by decide +kernel
theorem dX5_swap_140 : decode cX5_swap 140 = .ok (.if_icmp .ge 10, 3) := by decide +kernel
theorem dX5_swap_143 : decode cX5_swap 143 = .ok (.aload_n 0, 1) := by decide +kernel
theorem dX5_swap_144 : decode cX5_swap 144 = .ok (.getfield 135, 3) := by decide +kernel
theorem dX5_swap_147 : decode cX5_swap 147 = .ok (.goto 5, 3) := by decide +kernel
theorem dX5_swap_150 : decode cX5_swap 150 = .ok (.iload 4, 2) := by decide +kernel
theorem dX5_swap_152 : decode cX5_swap 152 = .ok (.istore 4, 2) := by decide +kernel
theorem dX5_swap_154 : decode cX5_swap 154 = .ok (.iinc 7 1, 3) := by decide +kernel
theorem dX5_swap_157 : decode cX5_swap 157 = .ok (.goto (-87), 3) := by decide +kernel
theorem dX5_swap_160 : decode cX5_swap 160 = .ok (.iinc 6 1, 3) := by decide +kernel
theorem dX5_swap_163 : decode cX5_swap 163 = .ok (.goto (-108), 3) := by decide +kernel
theorem dX5_swap_166 : decode cX5_swap 166 = .ok (.iload 5, 2) := by decide +kernel
theorem dX5_swap_168 : decode cX5_swap 168 = .ok (.ireturn, 1) := by decide +kernel
theorem dX5_gcd_0 : decode cX5_gcd 0 = .ok (.iload_n 0, 1) := by decide +kernel
theorem dX5_gcd_1 : decode cX5_gcd 1 = .ok (.istore_n 2, 1) := by decide +kernel
theorem dX5_gcd_2 : decode cX5_gcd 2 = .ok (.iload_n 1, 1) := by decide +kernel
theorem dX5_gcd_3 : decode cX5_gcd 3 = .ok (.istore_n 3, 1) := by decide +kernel
theorem dX5_gcd_4 : decode cX5_gcd 4 = .ok (.iload_n 3, 1) := by decide +kernel
theorem dX5_gcd_5 : decode cX5_gcd 5 = .ok (.ifCond .eq 16, 3) := by decide +kernel
theorem dX5_gcd_8 : decode cX5_gcd 8 = .ok (.iload_n 2, 1) := by decide +kernel
theorem dX5_gcd_9 : decode cX5_gcd 9 = .ok (.iload_n 3, 1) := by decide +kernel
theorem dX5_gcd_10 : decode cX5_gcd 10 = .ok (.irem, 1) := by decide +kernel
theorem dX5_gcd_11 : decode cX5_gcd 11 = .ok (.istore 4, 2) := by decide +kernel
theorem dX5_gcd_13 : decode cX5_gcd 13 = .ok (.iload_n 3, 1) := by decide +kernel
theorem dX5_gcd_14 : decode cX5_gcd 14 = .ok (.istore_n 2, 1) := by decide +kernel
theorem dX5_gcd_15 : decode cX5_gcd 15 = .ok (.iload 4, 2) := by decide +kernel
theorem dX5_gcd_17 : decode cX5_gcd 17 = .ok (.istore_n 3, 1) := by decide +kernel
theorem dX5_gcd_18 : decode cX5_gcd 18 = .ok (.goto (-14), 3) := by decide +kernel
theorem dX5_gcd_21 : decode cX5_gcd 21 = .ok (.iload_n 2, 1) := by decide +kernel
theorem dX5_gcd_22 : decode cX5_gcd 22 = .ok (.ireturn, 1) := by decide +kernel
theorem dX5_odds_0 : decode cX5_odds 0 = .ok (.aload_n 0, 1) := by decide +kernel
theorem dX5_odds_1 : decode cX5_odds 1 = .ok (.iconst 0, 1) := by decide +kernel
theorem dX5_odds_2 : decode cX5_odds 2 = .ok (.putfield 54, 3) := by decide +kernel
theorem dX5_odds_5 : decode cX5_odds 5 = .ok (.iload_n 1, 1) := by decide +kernel
theorem dX5_odds_6 : decode cX5_odds 6 = .ok (.iconst 1, 1) := by decide +kernel
theorem dX5_odds_7 : decode cX5_odds 7 = .ok (.bipush 9, 2) := by decide +kernel
theorem dX5_odds_9 : decode cX5_odds 9 = .ok (.invokestatic 57, 3) := by decide +kernel
theorem dX5_odds_12 : decode cX5_odds 12 = .ok (.ifCond .eq 31, 3) := by decide +kernel
theorem dX5_odds_15 : decode cX5_odds 15 = .ok (.iload_n 2, 1) := by decide +kernel
theorem dX5_odds_16 : decode cX5_odds 16 = .ok (.iconst 0, 1) := by decide +kernel
theorem dX5_odds_17 : decode cX5_odds 17 = .ok (.bipush 20, 2) := by decide +kernel
theorem dX5_odds_19 : decode cX5_odds 19 = .ok (.invokestatic 57, 3) := by decide +kernel
theorem dX5_odds_22 : decode cX5_odds 22 = .ok (.ifCond .eq 21, 3) := by decide +kernel
theorem dX5_odds_25 : decode cX5_odds 25 = .ok (.aload_n 0, 1) := by decide +kernel
theorem dX5_odds_26 : decode cX5_odds 26 = .ok (.iload_n 3, 1) := by decide +kernel
theorem dX5_odds_27 : decode cX5_odds 27 = .ok (.invokevirtual 158, 3) := by decide +kernel
theorem dX5_odds_30 : decode cX5_odds 30 = .ok (.ifCond .eq 13, 3) := by decide +kernel
theorem dX5_odds_33 : decode cX5_odds 33 = .ok (.iload 4, 2) := by decide +kernel
theorem dX5_odds_35 : decode cX5_odds 35 = .ok (.iconst 0, 1) := by decide +kernel
theorem dX5_odds_36 : decode cX5_odds 36 = .ok (.iconst 1, 1) := by decide +kernel
theorem dX5_odds_37 : decode cX5_odds 37 = .ok (.invokestatic 57, 3) := by decide +kernel
theorem dX5_odds_40 : decode cX5_odds 40 = .ok (.ifCond .ne 5, 3) := by decide +kernel
theorem dX5_odds_43 : decode cX5_odds 43 = .ok (.iconst (-1), 1) := by decide +kernel
theorem dX5_odds_44 : decode cX5_odds 44 = .ok (.ireturn, 1) := by decide +kernel
theorem dX5_odds_45 : decode cX5_odds 45 = .ok (.iconst 0, 1) := by decide +kernel
theorem dX5_odds_46 : decode cX5_odds 46 = .ok (.istore 5, 2) := by decide +kernel
theorem dX5_odds_48 : decode cX5_odds 48 = .ok (.iconst 0, 1) := by decide +kernel
theorem dX5_odds_49 : decode cX5_odds 49 = .ok (.istore 6, 2) := by decide +kernel
theorem dX5_odds_51 : decode cX5_odds 51 = .ok (.iload 6, 2) := by decide +kernel
theorem dX5_odds_53 : decode cX5_odds 53 = .ok (.aload_n 0, 1) := by decide +kernel
theorem dX5_odds_54 : decode cX5_odds 54 = .ok (.getfield 115, 3) := by decide +kernel
theorem dX5_odds_57 : decode cX5_odds 57 = .ok (.if_icmp .ge 38, 3) := by decide +kernel
theorem dX5_odds_60 : decode cX5_odds 60 = .ok (.aload_n 0, 1) := by decide +kernel
theorem dX5_odds_61 : decode cX5_odds 61 = .ok (.iload 6, 2) := by decide +kernel
theorem dX5_odds_63 : decode cX5_odds 63 = .ok (.iload_n 1, 1) := by decide +kernel
theorem dX5_odds_64 : decode cX5_odds 64 = .ok (.iload_n 2, 1) := by decide +kernel
theorem dX5_odds_65 : decode cX5_odds 65 = .ok (.invokevirtual 173, 3) := by decide +kernel
theorem dX5_odds_68 : decode cX5_odds 68 = .ok (.iload 5, 2) := by decide +kernel
theorem dX5_odds_70 : decode cX5_odds 70 = .ok (.aload_n 0, 1) := by decide +kernel
theorem dX5_odds_71 : decode cX5_odds 71 = .ok (.getfield 132, 3) := by decide +kernel
theorem dX5_odds_74 : decode cX5_odds 74 = .ok (.iload_n 3, 1) := by decide +kernel
theorem dX5_odds_75 : decode cX5_odds 75 = .ok (.invokestatic 180, 3) := by decide +kernel
theorem dX5_odds_78 : decode cX5_odds 78 = .ok (.ifCond .eq 7, 3) := by decide +kernel
theorem dX5_odds_81 : decode cX5_odds 81 = .ok (.iconst 1, 1) := by decide +kernel
theorem dX5_odds_82 : decode cX5_odds 82 = .ok (.goto 4, 3) := by decide +kernel
theorem dX5_odds_85 : decode cX5_odds 85 = .ok (.iconst 0, 1) := by decide +kernel
theorem dX5_odds_86 : decode cX5_odds 86 = .ok (.iadd, 1) := by decide +kernel
theorem dX5_odds_87 : decode cX5_odds 87 = .ok (.istore 5, 2) := by decide +kernel
theorem dX5_odds_89 : decode cX5_odds 89 = .ok (.iinc 6 1, 3) := by decide +kernel
theorem dX5_odds_92 : decode cX5_odds 92 = .ok (.goto (-41), 3) := by decide +kernel
theorem dX5_odds_95 : decode cX5_odds 95 = .ok (.iload 5, 2) := by decide +kernel
theorem dX5_odds_97 : decode cX5_odds 97 = .ok (.aload_n 0, 1) := by decide +kernel
theorem dX5_odds_98 : decode cX5_odds 98 = .ok (.getfield 115, 3) := by decide +kernel
theorem dX5_odds_101 : decode cX5_odds 101 = .ok (.invokestatic 183, 3) := by decide +kernel
theorem dX5_odds_104 : decode cX5_odds 104 = .ok (.istore 6, 2) := by decide +kernel
theorem dX5_odds_106 : decode cX5_odds 106 = .ok (.iload 4, 2) := by decide +kernel
theorem dX5_odds_108 : decode cX5_odds 108 = .ok (.ifCond .ne 11, 3) := by decide +kernel
theorem dX5_odds_111 : decode cX5_odds 111 = .ok (.iload 5, 2) := by decide +kernel
theorem dX5_odds_113 : decode cX5_odds 113 = .ok (.iload 6, 2) := by decide +kernel
theorem dX5_odds_115 : decode cX5_odds 115 = .ok (.idiv, 1) := by decide +kernel
theorem dX5_odds_116 : decode cX5_odds 116 = .ok (.goto 10, 3) := by decide +kernel
theorem dX5_odds_119 : decode cX5_odds 119 = .ok (.aload_n 0, 1) := by decide +kernel
theorem dX5_odds_120 : decode cX5_odds 120 = .ok (.getfield 115, 3) := by decide +kernel
theorem dX5_odds_123 : decode cX5_odds 123 = .ok (.iload 6, 2) := by decide +kernel
theorem dX5_odds_125 : decode cX5_odds 125 = .ok (.idiv, 1) := by decide +kernel
theorem dX5_odds_126 : decode cX5_odds 126 = .ok (.ireturn, 1) := by decide +kernel
theorem dX5_hears_0 : decode cX5_hears 0 = .ok (.aload_n 0, 1) := by decide +kernel
theorem dX5_hears_1 : decode cX5_hears 1 = .ok (.iconst 0, 1) := by decide +kernel
theorem dX5_hears_2 : decode cX5_hears 2 = .ok (.putfield 54, 3) := by decide +kernel
theorem dX5_hears_5 : decode cX5_hears 5 = .ok (.aload_n 0, 1) := by decide +kernel
theorem dX5_hears_6 : decode cX5_hears 6 = .ok (.iload_n 1, 1) := by decide +kernel
theorem dX5_hears_7 : decode cX5_hears 7 = .ok (.invokevirtual 158, 3) := by decide +kernel
theorem dX5_hears_10 : decode cX5_hears 10 = .ok (.ifCond .eq 22, 3) := by decide +kernel
theorem dX5_hears_13 : decode cX5_hears 13 = .ok (.iload_n 2, 1) := by decide +kernel
theorem dX5_hears_14 : decode cX5_hears 14 = .ok (.iconst 0, 1) := by decide +kernel
theorem dX5_hears_15 : decode cX5_hears 15 = .ok (.bipush 20, 2) := by decide +kernel
theorem dX5_hears_17 : decode cX5_hears 17 = .ok (.invokestatic 57, 3) := by decide +kernel
theorem dX5_hears_20 : decode cX5_hears 20 = .ok (.ifCond .eq 12, 3) := by decide +kernel
theorem dX5_hears_23 : decode cX5_hears 23 = .ok (.iload_n 3, 1) := by decide +kernel
theorem dX5_hears_24 : decode cX5_hears 24 = .ok (.iconst 0, 1) := by decide +kernel
theorem dX5_hears_25 : decode cX5_hears 25 = .ok (.iconst 1, 1) := by decide +kernel
theorem dX5_hears_26 : decode cX5_hears 26 = .ok (.invokestatic 57, 3) := by decide +kernel
theorem dX5_hears_29 : decode cX5_hears 29 = .ok (.ifCond .ne 5, 3) := by decide +kernel
theorem dX5_hears_32 : decode cX5_hears 32 = .ok (.iconst (-1), 1) := by decide +kernel
theorem dX5_hears_33 : decode cX5_hears 33 = .ok (.ireturn, 1) := by decide +kernel
theorem dX5_hears_34 : decode cX5_hears 34 = .ok (.aload_n 0, 1) := by decide +kernel
theorem dX5_hears_35 : decode cX5_hears 35 = .ok (.getfield 118, 3) := by decide +kernel
theorem dX5_hears_38 : decode cX5_hears 38 = .ok (.bipush 6, 2) := by decide +kernel
theorem dX5_hears_40 : decode cX5_hears 40 = .ok (.if_icmp .ne 6, 3) := by decide +kernel
theorem dX5_hears_43 : decode cX5_hears 43 = .ok (.bipush (-3), 2) := by decide +kernel
theorem dX5_hears_45 : decode cX5_hears 45 = .ok (.ireturn, 1) := by decide +kernel
theorem dX5_hears_46 : decode cX5_hears 46 = .ok (.aload_n 0, 1) := by decide +kernel
theorem dX5_hears_47 : decode cX5_hears 47 = .ok (.getfield 38, 3) := by decide +kernel
theorem dX5_hears_50 : decode cX5_hears 50 = .ok (.aload_n 0, 1) := by decide +kernel
theorem dX5_hears_51 : decode cX5_hears 51 = .ok (.getfield 118, 3) := by decide +kernel
theorem dX5_hears_54 : decode cX5_hears 54 = .ok (.iload_n 1, 1) := by decide +kernel
theorem dX5_hears_55 : decode cX5_hears 55 = .ok (.iastore, 1) := by decide +kernel
theorem dX5_hears_56 : decode cX5_hears 56 = .ok (.aload_n 0, 1) := by decide +kernel
theorem dX5_hears_57 : decode cX5_hears 57 = .ok (.getfield 41, 3) := by decide +kernel
theorem dX5_hears_60 : decode cX5_hears 60 = .ok (.aload_n 0, 1) := by decide +kernel
theorem dX5_hears_61 : decode cX5_hears 61 = .ok (.getfield 118, 3) := by decide +kernel
theorem dX5_hears_64 : decode cX5_hears 64 = .ok (.iload_n 2, 1) := by decide +kernel
theorem dX5_hears_65 : decode cX5_hears 65 = .ok (.iastore, 1) := by decide +kernel
theorem dX5_hears_66 : decode cX5_hears 66 = .ok (.aload_n 0, 1) := by decide +kernel
theorem dX5_hears_67 : decode cX5_hears 67 = .ok (.getfield 44, 3) := by decide +kernel
theorem dX5_hears_70 : decode cX5_hears 70 = .ok (.aload_n 0, 1) := by decide +kernel
theorem dX5_hears_71 : decode cX5_hears 71 = .ok (.getfield 118, 3) := by decide +kernel
theorem dX5_hears_74 : decode cX5_hears 74 = .ok (.iload_n 3, 1) := by decide +kernel
theorem dX5_hears_75 : decode cX5_hears 75 = .ok (.iastore, 1) := by decide +kernel
theorem dX5_hears_76 : decode cX5_hears 76 = .ok (.aload_n 0, 1) := by decide +kernel
theorem dX5_hears_77 : decode cX5_hears 77 = .ok (.dup, 1) := by decide +kernel
theorem dX5_hears_78 : decode cX5_hears 78 = .ok (.getfield 118, 3) := by decide +kernel
theorem dX5_hears_81 : decode cX5_hears 81 = .ok (.iconst 1, 1) := by decide +kernel
theorem dX5_hears_82 : decode cX5_hears 82 = .ok (.iadd, 1) := by decide +kernel
theorem dX5_hears_83 : decode cX5_hears 83 = .ok (.putfield 118, 3) := by decide +kernel
theorem dX5_hears_86 : decode cX5_hears 86 = .ok (.aload_n 0, 1) := by decide +kernel
theorem dX5_hears_87 : decode cX5_hears 87 = .ok (.getfield 118, 3) := by decide +kernel
theorem dX5_hears_90 : decode cX5_hears 90 = .ok (.ireturn, 1) := by decide +kernel
theorem dX5_forget_0 : decode cX5_forget 0 = .ok (.aload_n 0, 1) := by decide +kernel
theorem dX5_forget_1 : decode cX5_forget 1 = .ok (.iconst 0, 1) := by decide +kernel
theorem dX5_forget_2 : decode cX5_forget 2 = .ok (.putfield 54, 3) := by decide +kernel
theorem dX5_forget_5 : decode cX5_forget 5 = .ok (.aload_n 0, 1) := by decide +kernel
theorem dX5_forget_6 : decode cX5_forget 6 = .ok (.getfield 118, 3) := by decide +kernel
theorem dX5_forget_9 : decode cX5_forget 9 = .ok (.istore_n 1, 1) := by decide +kernel
theorem dX5_forget_10 : decode cX5_forget 10 = .ok (.aload_n 0, 1) := by decide +kernel
theorem dX5_forget_11 : decode cX5_forget 11 = .ok (.iconst 0, 1) := by decide +kernel
theorem dX5_forget_12 : decode cX5_forget 12 = .ok (.putfield 118, 3) := by decide +kernel
theorem dX5_forget_15 : decode cX5_forget 15 = .ok (.iload_n 1, 1) := by decide +kernel
theorem dX5_forget_16 : decode cX5_forget 16 = .ok (.ireturn, 1) := by decide +kernel
theorem dX5_isAsHeard_0 : decode cX5_isAsHeard 0 = .ok (.iload_n 1, 1) := by decide +kernel
theorem dX5_isAsHeard_1 : decode cX5_isAsHeard 1 = .ok (.bipush 10, 2) := by decide +kernel
theorem dX5_isAsHeard_3 : decode cX5_isAsHeard 3 = .ok (.irem, 1) := by decide +kernel
theorem dX5_isAsHeard_4 : decode cX5_isAsHeard 4 = .ok (.ifCond .le 7, 3) := by decide +kernel
theorem dX5_isAsHeard_7 : decode cX5_isAsHeard 7 = .ok (.iconst 1, 1) := by decide +kernel
theorem dX5_isAsHeard_8 : decode cX5_isAsHeard 8 = .ok (.goto 4, 3) := by decide +kernel
theorem dX5_isAsHeard_11 : decode cX5_isAsHeard 11 = .ok (.iconst 0, 1) := by decide +kernel
theorem dX5_isAsHeard_12 : decode cX5_isAsHeard 12 = .ok (.istore_n 2, 1) := by decide +kernel
theorem dX5_isAsHeard_13 : decode cX5_isAsHeard 13 = .ok (.iconst 0, 1) := by decide +kernel
theorem dX5_isAsHeard_14 : decode cX5_isAsHeard 14 = .ok (.istore_n 3, 1) := by decide +kernel
theorem dX5_isAsHeard_15 : decode cX5_isAsHeard 15 = .ok (.iload_n 3, 1) := by decide +kernel
theorem dX5_isAsHeard_16 : decode cX5_isAsHeard 16 = .ok (.aload_n 0, 1) := by decide +kernel
theorem dX5_isAsHeard_17 : decode cX5_isAsHeard 17 = .ok (.getfield 118, 3) := by decide +kernel
theorem dX5_isAsHeard_20 : decode cX5_isAsHeard 20 = .ok (.if_icmp .ge 59, 3) := by decide +kernel
theorem dX5_isAsHeard_23 : decode cX5_isAsHeard 23 = .ok (.iload_n 2, 1) := by decide +kernel
theorem dX5_isAsHeard_24 : decode cX5_isAsHeard 24 = .ok (.ifCond .eq 55, 3) := by decide +kernel
theorem dX5_isAsHeard_27 : decode cX5_isAsHeard 27 = .ok (.aload_n 0, 1) := by decide +kernel
theorem dX5_isAsHeard_28 : decode cX5_isAsHeard 28 = .ok (.iload_n 1, 1) := by decide +kernel
theorem dX5_isAsHeard_29 : decode cX5_isAsHeard 29 = .ok (.bipush 10, 2) := by decide +kernel
theorem dX5_isAsHeard_31 : decode cX5_isAsHeard 31 = .ok (.idiv, 1) := by decide +kernel
theorem dX5_isAsHeard_32 : decode cX5_isAsHeard 32 = .ok (.iload_n 1, 1) := by decide +kernel
theorem dX5_isAsHeard_33 : decode cX5_isAsHeard 33 = .ok (.bipush 10, 2) := by decide +kernel
theorem dX5_isAsHeard_35 : decode cX5_isAsHeard 35 = .ok (.irem, 1) := by decide +kernel
theorem dX5_isAsHeard_36 : decode cX5_isAsHeard 36 = .ok (.aload_n 0, 1) := by decide +kernel
theorem dX5_isAsHeard_37 : decode cX5_isAsHeard 37 = .ok (.getfield 41, 3) := by decide +kernel
theorem dX5_isAsHeard_40 : decode cX5_isAsHeard 40 = .ok (.iload_n 3, 1) := by decide +kernel
theorem dX5_isAsHeard_41 : decode cX5_isAsHeard 41 = .ok (.iaload, 1) := by decide +kernel
theorem dX5_isAsHeard_42 : decode cX5_isAsHeard 42 = .ok (.invokevirtual 173, 3) := by decide +kernel
theorem dX5_isAsHeard_45 : decode cX5_isAsHeard 45 = .ok (.aload_n 0, 1) := by decide +kernel
theorem dX5_isAsHeard_46 : decode cX5_isAsHeard 46 = .ok (.getfield 132, 3) := by decide +kernel
theorem dX5_isAsHeard_49 : decode cX5_isAsHeard 49 = .ok (.aload_n 0, 1) := by decide +kernel
theorem dX5_isAsHeard_50 : decode cX5_isAsHeard 50 = .ok (.getfield 38, 3) := by decide +kernel
theorem dX5_isAsHeard_53 : decode cX5_isAsHeard 53 = .ok (.iload_n 3, 1) := by decide +kernel
theorem dX5_isAsHeard_54 : decode cX5_isAsHeard 54 = .ok (.iaload, 1) := by decide +kernel
theorem dX5_isAsHeard_55 : decode cX5_isAsHeard 55 = .ok (.ishr, 1) := by decide +kernel
theorem dX5_isAsHeard_56 : decode cX5_isAsHeard 56 = .ok (.iconst 1, 1) := by decide +kernel
theorem dX5_isAsHeard_57 : decode cX5_isAsHeard 57 = .ok (.iand, 1) := by decide +kernel
theorem dX5_isAsHeard_58 : decode cX5_isAsHeard 58 = .ok (.aload_n 0, 1) := by decide +kernel
theorem dX5_isAsHeard_59 : decode cX5_isAsHeard 59 = .ok (.getfield 44, 3) := by decide +kernel
theorem dX5_isAsHeard_62 : decode cX5_isAsHeard 62 = .ok (.iload_n 3, 1) := by decide +kernel
theorem dX5_isAsHeard_63 : decode cX5_isAsHeard 63 = .ok (.iaload, 1) := by decide +kernel
theorem dX5_isAsHeard_64 : decode cX5_isAsHeard 64 = .ok (.if_icmp .ne 7, 3) := by decide +kernel
theorem dX5_isAsHeard_67 : decode cX5_isAsHeard 67 = .ok (.iconst 1, 1) := by decide +kernel
theorem dX5_isAsHeard_68 : decode cX5_isAsHeard 68 = .ok (.goto 4, 3) := by decide +kernel
theorem dX5_isAsHeard_71 : decode cX5_isAsHeard 71 = .ok (.iconst 0, 1) := by decide +kernel
theorem dX5_isAsHeard_72 : decode cX5_isAsHeard 72 = .ok (.istore_n 2, 1) := by decide +kernel
theorem dX5_isAsHeard_73 : decode cX5_isAsHeard 73 = .ok (.iinc 3 1, 3) := by decide +kernel
theorem dX5_isAsHeard_76 : decode cX5_isAsHeard 76 = .ok (.goto (-61), 3) := by decide +kernel
theorem dX5_isAsHeard_79 : decode cX5_isAsHeard 79 = .ok (.iload_n 2, 1) := by decide +kernel
theorem dX5_isAsHeard_80 : decode cX5_isAsHeard 80 = .ok (.ireturn, 1) := by decide +kernel
theorem dX5_gusts_0 : decode cX5_gusts 0 = .ok (.aload_n 0, 1) := by decide +kernel
theorem dX5_gusts_1 : decode cX5_gusts 1 = .ok (.iconst 0, 1) := by decide +kernel
theorem dX5_gusts_2 : decode cX5_gusts 2 = .ok (.putfield 54, 3) := by decide +kernel
theorem dX5_gusts_5 : decode cX5_gusts 5 = .ok (.iload_n 1, 1) := by decide +kernel
theorem dX5_gusts_6 : decode cX5_gusts 6 = .ok (.iconst 0, 1) := by decide +kernel
theorem dX5_gusts_7 : decode cX5_gusts 7 = .ok (.iconst 1, 1) := by decide +kernel
theorem dX5_gusts_8 : decode cX5_gusts 8 = .ok (.invokestatic 57, 3) := by decide +kernel
theorem dX5_gusts_11 : decode cX5_gusts 11 = .ok (.ifCond .ne 5, 3) := by decide +kernel
theorem dX5_gusts_14 : decode cX5_gusts 14 = .ok (.iconst (-1), 1) := by decide +kernel
theorem dX5_gusts_15 : decode cX5_gusts 15 = .ok (.ireturn, 1) := by decide +kernel
theorem dX5_gusts_16 : decode cX5_gusts 16 = .ok (.iconst 0, 1) := by decide +kernel
theorem dX5_gusts_17 : decode cX5_gusts 17 = .ok (.istore_n 2, 1) := by decide +kernel
theorem dX5_gusts_18 : decode cX5_gusts 18 = .ok (.bipush (-9), 2) := by decide +kernel
theorem dX5_gusts_20 : decode cX5_gusts 20 = .ok (.istore_n 3, 1) := by decide +kernel
theorem dX5_gusts_21 : decode cX5_gusts 21 = .ok (.iconst 0, 1) := by decide +kernel
theorem dX5_gusts_22 : decode cX5_gusts 22 = .ok (.istore 4, 2) := by decide +kernel
theorem dX5_gusts_24 : decode cX5_gusts 24 = .ok (.iload 4, 2) := by decide +kernel
theorem dX5_gusts_26 : decode cX5_gusts 26 = .ok (.bipush 10, 2) := by decide +kernel
theorem dX5_gusts_28 : decode cX5_gusts 28 = .ok (.aload_n 0, 1) := by decide +kernel
theorem dX5_gusts_29 : decode cX5_gusts 29 = .ok (.getfield 115, 3) := by decide +kernel
theorem dX5_gusts_32 : decode cX5_gusts 32 = .ok (.imul, 1) := by decide +kernel
theorem dX5_gusts_33 : decode cX5_gusts 33 = .ok (.if_icmp .ge 32, 3) := by decide +kernel
theorem dX5_gusts_36 : decode cX5_gusts 36 = .ok (.aload_n 0, 1) := by decide +kernel
theorem dX5_gusts_37 : decode cX5_gusts 37 = .ok (.iload 4, 2) := by decide +kernel
theorem dX5_gusts_39 : decode cX5_gusts 39 = .ok (.invokevirtual 186, 3) := by decide +kernel
theorem dX5_gusts_42 : decode cX5_gusts 42 = .ok (.ifCond .eq 17, 3) := by decide +kernel
theorem dX5_gusts_45 : decode cX5_gusts 45 = .ok (.iload_n 2, 1) := by decide +kernel
theorem dX5_gusts_46 : decode cX5_gusts 46 = .ok (.ifCond .ne 8, 3) := by decide +kernel
theorem dX5_gusts_49 : decode cX5_gusts 49 = .ok (.iload 4, 2) := by decide +kernel
theorem dX5_gusts_51 : decode cX5_gusts 51 = .ok (.goto 4, 3) := by decide +kernel
theorem dX5_gusts_54 : decode cX5_gusts 54 = .ok (.iload_n 3, 1) := by decide +kernel
theorem dX5_gusts_55 : decode cX5_gusts 55 = .ok (.istore_n 3, 1) := by decide +kernel
theorem dX5_gusts_56 : decode cX5_gusts 56 = .ok (.iinc 2 1, 3) := by decide +kernel
theorem dX5_gusts_59 : decode cX5_gusts 59 = .ok (.iinc 4 1, 3) := by decide +kernel
theorem dX5_gusts_62 : decode cX5_gusts 62 = .ok (.goto (-38), 3) := by decide +kernel
theorem dX5_gusts_65 : decode cX5_gusts 65 = .ok (.iload_n 1, 1) := by decide +kernel
theorem dX5_gusts_66 : decode cX5_gusts 66 = .ok (.ifCond .ne 7, 3) := by decide +kernel
theorem dX5_gusts_69 : decode cX5_gusts 69 = .ok (.iload_n 2, 1) := by decide +kernel
theorem dX5_gusts_70 : decode cX5_gusts 70 = .ok (.goto 4, 3) := by decide +kernel
theorem dX5_gusts_73 : decode cX5_gusts 73 = .ok (.iload_n 3, 1) := by decide +kernel
theorem dX5_gusts_74 : decode cX5_gusts 74 = .ok (.ireturn, 1) := by decide +kernel
theorem dX5_listen_0 : decode cX5_listen 0 = .ok (.aload_n 0, 1) := by decide +kernel
theorem dX5_listen_1 : decode cX5_listen 1 = .ok (.iconst 0, 1) := by decide +kernel
theorem dX5_listen_2 : decode cX5_listen 2 = .ok (.putfield 54, 3) := by decide +kernel
theorem dX5_listen_5 : decode cX5_listen 5 = .ok (.iload_n 1, 1) := by decide +kernel
theorem dX5_listen_6 : decode cX5_listen 6 = .ok (.iconst 0, 1) := by decide +kernel
theorem dX5_listen_7 : decode cX5_listen 7 = .ok (.bipush 20, 2) := by decide +kernel
theorem dX5_listen_9 : decode cX5_listen 9 = .ok (.invokestatic 57, 3) := by decide +kernel
theorem dX5_listen_12 : decode cX5_listen 12 = .ok (.ifCond .ne 5, 3) := by decide +kernel
theorem dX5_listen_15 : decode cX5_listen 15 = .ok (.iconst (-1), 1) := by decide +kernel
theorem dX5_listen_16 : decode cX5_listen 16 = .ok (.ireturn, 1) := by decide +kernel
theorem dX5_listen_17 : decode cX5_listen 17 = .ok (.iconst 0, 1) := by decide +kernel
theorem dX5_listen_18 : decode cX5_listen 18 = .ok (.istore_n 2, 1) := by decide +kernel
theorem dX5_listen_19 : decode cX5_listen 19 = .ok (.iconst 0, 1) := by decide +kernel
theorem dX5_listen_20 : decode cX5_listen 20 = .ok (.istore_n 3, 1) := by decide +kernel
theorem dX5_listen_21 : decode cX5_listen 21 = .ok (.iload_n 3, 1) := by decide +kernel
theorem dX5_listen_22 : decode cX5_listen 22 = .ok (.bipush 8, 2) := by decide +kernel
theorem dX5_listen_24 : decode cX5_listen 24 = .ok (.if_icmp .ge 16, 3) := by decide +kernel
theorem dX5_listen_27 : decode cX5_listen 27 = .ok (.aload_n 0, 1) := by decide +kernel
theorem dX5_listen_28 : decode cX5_listen 28 = .ok (.getfield 47, 3) := by decide +kernel
theorem dX5_listen_31 : decode cX5_listen 31 = .ok (.iload_n 3, 1) := by decide +kernel
theorem dX5_listen_32 : decode cX5_listen 32 = .ok (.iconst 0, 1) := by decide +kernel
theorem dX5_listen_33 : decode cX5_listen 33 = .ok (.iastore, 1) := by decide +kernel
theorem dX5_listen_34 : decode cX5_listen 34 = .ok (.iinc 3 1, 3) := by decide +kernel
theorem dX5_listen_37 : decode cX5_listen 37 = .ok (.goto (-16), 3) := by decide +kernel
theorem dX5_listen_40 : decode cX5_listen 40 = .ok (.iconst 0, 1) := by decide +kernel
theorem dX5_listen_41 : decode cX5_listen 41 = .ok (.istore_n 3, 1) := by decide +kernel
theorem dX5_listen_42 : decode cX5_listen 42 = .ok (.iload_n 3, 1) := by decide +kernel
theorem dX5_listen_43 : decode cX5_listen 43 = .ok (.bipush 10, 2) := by decide +kernel
theorem dX5_listen_45 : decode cX5_listen 45 = .ok (.aload_n 0, 1) := by decide +kernel
theorem dX5_listen_46 : decode cX5_listen 46 = .ok (.getfield 115, 3) := by decide +kernel
theorem dX5_listen_49 : decode cX5_listen 49 = .ok (.imul, 1) := by decide +kernel
theorem dX5_listen_50 : decode cX5_listen 50 = .ok (.if_icmp .ge 70, 3) := by decide +kernel
theorem dX5_listen_53 : decode cX5_listen 53 = .ok (.aload_n 0, 1) := by decide +kernel
theorem dX5_listen_54 : decode cX5_listen 54 = .ok (.iload_n 3, 1) := by decide +kernel
theorem dX5_listen_55 : decode cX5_listen 55 = .ok (.invokevirtual 186, 3) := by decide +kernel
theorem dX5_listen_58 : decode cX5_listen 58 = .ok (.ifCond .eq 56, 3) := by decide +kernel
theorem dX5_listen_61 : decode cX5_listen 61 = .ok (.iinc 2 1, 3) := by decide +kernel
theorem dX5_listen_64 : decode cX5_listen 64 = .ok (.aload_n 0, 1) := by decide +kernel
theorem dX5_listen_65 : decode cX5_listen 65 = .ok (.iload_n 3, 1) := by decide +kernel
theorem dX5_listen_66 : decode cX5_listen 66 = .ok (.bipush 10, 2) := by decide +kernel
theorem dX5_listen_68 : decode cX5_listen 68 = .ok (.idiv, 1) := by decide +kernel
theorem dX5_listen_69 : decode cX5_listen 69 = .ok (.iload_n 3, 1) := by decide +kernel
theorem dX5_listen_70 : decode cX5_listen 70 = .ok (.bipush 10, 2) := by decide +kernel
theorem dX5_listen_72 : decode cX5_listen 72 = .ok (.irem, 1) := by decide +kernel
theorem dX5_listen_73 : decode cX5_listen 73 = .ok (.iload_n 1, 1) := by decide +kernel
theorem dX5_listen_74 : decode cX5_listen 74 = .ok (.invokevirtual 173, 3) := by decide +kernel
theorem dX5_listen_77 : decode cX5_listen 77 = .ok (.iconst 0, 1) := by decide +kernel
theorem dX5_listen_78 : decode cX5_listen 78 = .ok (.istore 4, 2) := by decide +kernel
theorem dX5_listen_80 : decode cX5_listen 80 = .ok (.iload 4, 2) := by decide +kernel
theorem dX5_listen_82 : decode cX5_listen 82 = .ok (.aload_n 0, 1) := by decide +kernel
theorem dX5_listen_83 : decode cX5_listen 83 = .ok (.getfield 115, 3) := by decide +kernel
theorem dX5_listen_86 : decode cX5_listen 86 = .ok (.if_icmp .ge 28, 3) := by decide +kernel
theorem dX5_listen_89 : decode cX5_listen 89 = .ok (.aload_n 0, 1) := by decide +kernel
theorem dX5_listen_90 : decode cX5_listen 90 = .ok (.getfield 47, 3) := by decide +kernel
theorem dX5_listen_93 : decode cX5_listen 93 = .ok (.iload 4, 2) := by decide +kernel
theorem dX5_listen_95 : decode cX5_listen 95 = .ok (.dup2, 1) := by decide +kernel
theorem dX5_listen_96 : decode cX5_listen 96 = .ok (.iaload, 1) := by decide +kernel
theorem dX5_listen_97 : decode cX5_listen 97 = .ok (.aload_n 0, 1) := by decide +kernel
theorem dX5_listen_98 : decode cX5_listen 98 = .ok (.getfield 132, 3) := by decide +kernel
theorem dX5_listen_101 : decode cX5_listen 101 = .ok (.iload 4, 2) := by decide +kernel
theorem dX5_listen_103 : decode cX5_listen 103 = .ok (.ishr, 1) := by decide +kernel
theorem dX5_listen_104 : decode cX5_listen 104 = .ok (.iconst 1, 1) := by decide +kernel
theorem dX5_listen_105 : decode cX5_listen 105 = .ok (.iand, 1) := by decide +kernel
theorem dX5_listen_106 : decode cX5_listen 106 = .ok (.iadd, 1) := by decide +kernel
theorem dX5_listen_107 : decode cX5_listen 107 = .ok (.iastore, 1) := by decide +kernel
theorem dX5_listen_108 : decode cX5_listen 108 = .ok (.iinc 4 1, 3) := by decide +kernel
theorem dX5_listen_111 : decode cX5_listen 111 = .ok (.goto (-31), 3) := by decide +kernel
theorem dX5_listen_114 : decode cX5_listen 114 = .ok (.iinc 3 1, 3) := by decide +kernel
theorem dX5_listen_117 : decode cX5_listen 117 = .ok (.goto (-75), 3) := by decide +kernel
theorem dX5_listen_120 : decode cX5_listen 120 = .ok (.bipush (-9), 2) := by decide +kernel
theorem dX5_listen_122 : decode cX5_listen 122 = .ok (.istore_n 3, 1) := by decide +kernel
theorem dX5_listen_123 : decode cX5_listen 123 = .ok (.bipush 99, 2) := by decide +kernel
theorem dX5_listen_125 : decode cX5_listen 125 = .ok (.istore 4, 2) := by decide +kernel
theorem dX5_listen_127 : decode cX5_listen 127 = .ok (.iconst 0, 1) := by decide +kernel
theorem dX5_listen_128 : decode cX5_listen 128 = .ok (.istore 5, 2) := by decide +kernel
theorem dX5_listen_130 : decode cX5_listen 130 = .ok (.iload 5, 2) := by decide +kernel
theorem dX5_listen_132 : decode cX5_listen 132 = .ok (.aload_n 0, 1) := by decide +kernel
theorem dX5_listen_133 : decode cX5_listen 133 = .ok (.getfield 115, 3) := by decide +kernel
theorem dX5_listen_136 : decode cX5_listen 136 = .ok (.if_icmp .ge 84, 3) := by decide +kernel
theorem dX5_listen_139 : decode cX5_listen 139 = .ok (.iload_n 2, 1) := by decide +kernel
theorem dX5_listen_140 : decode cX5_listen 140 = .ok (.iconst 1, 1) := by decide +kernel
theorem dX5_listen_141 : decode cX5_listen 141 = .ok (.if_icmp .le 79, 3) := by decide +kernel
theorem dX5_listen_144 : decode cX5_listen 144 = .ok (.aload_n 0, 1) := by decide +kernel
theorem dX5_listen_145 : decode cX5_listen 145 = .ok (.getfield 47, 3) := by decide +kernel
theorem dX5_listen_148 : decode cX5_listen 148 = .ok (.iload 5, 2) := by decide +kernel
theorem dX5_listen_150 : decode cX5_listen 150 = .ok (.iaload, 1) := by decide +kernel
theorem dX5_listen_151 : decode cX5_listen 151 = .ok (.iload_n 2, 1) := by decide +kernel
theorem dX5_listen_152 : decode cX5_listen 152 = .ok (.aload_n 0, 1) := by decide +kernel
theorem dX5_listen_153 : decode cX5_listen 153 = .ok (.getfield 47, 3) := by decide +kernel
theorem dX5_listen_156 : decode cX5_listen 156 = .ok (.iload 5, 2) := by decide +kernel
theorem dX5_listen_158 : decode cX5_listen 158 = .ok (.iaload, 1) := by decide +kernel
theorem dX5_listen_159 : decode cX5_listen 159 = .ok (.isub, 1) := by decide +kernel
theorem dX5_listen_160 : decode cX5_listen 160 = .ok (.if_icmp .le 13, 3) := by decide +kernel
theorem dX5_listen_163 : decode cX5_listen 163 = .ok (.aload_n 0, 1) := by decide +kernel
theorem dX5_listen_164 : decode cX5_listen 164 = .ok (.getfield 47, 3) := by decide +kernel
theorem dX5_listen_167 : decode cX5_listen 167 = .ok (.iload 5, 2) := by decide +kernel
theorem dX5_listen_169 : decode cX5_listen 169 = .ok (.iaload, 1) := by decide +kernel
