theorem dX5_listen_170 : decode cX5_listen 170 = .ok (.goto 12, 3) := by decide +kernel
theorem dX5_listen_173 : decode cX5_listen 173 = .ok (.iload_n 2, 1) := by decide +kernel
theorem dX5_listen_174 : decode cX5_listen 174 = .ok (.aload_n 0, 1) := by decide +kernel
theorem dX5_listen_175 : decode cX5_listen 175 = .ok (.getfield 47, 3) := by decide +kernel
theorem dX5_listen_178 : decode cX5_listen 178 = .ok (.iload 5, 2) := by decide +kernel
theorem dX5_listen_180 : decode cX5_listen 180 = .ok (.iaload, 1) := by decide +kernel
theorem dX5_listen_181 : decode cX5_listen 181 = .ok (.isub, 1) := by decide +kernel
theorem dX5_listen_182 : decode cX5_listen 182 = .ok (.istore 6, 2) := by decide +kernel
theorem dX5_listen_184 : decode cX5_listen 184 = .ok (.iload 6, 2) := by decide +kernel
theorem dX5_listen_186 : decode cX5_listen 186 = .ok (.iload 4, 2) := by decide +kernel
theorem dX5_listen_188 : decode cX5_listen 188 = .ok (.if_icmp .ge 8, 3) := by decide +kernel
theorem dX5_listen_191 : decode cX5_listen 191 = .ok (.iload 5, 2) := by decide +kernel
theorem dX5_listen_193 : decode cX5_listen 193 = .ok (.goto 4, 3) := by decide +kernel
theorem dX5_listen_196 : decode cX5_listen 196 = .ok (.iload_n 3, 1) := by decide +kernel
theorem dX5_listen_197 : decode cX5_listen 197 = .ok (.istore_n 3, 1) := by decide +kernel
theorem dX5_listen_198 : decode cX5_listen 198 = .ok (.iload 6, 2) := by decide +kernel
theorem dX5_listen_200 : decode cX5_listen 200 = .ok (.iload 4, 2) := by decide +kernel
theorem dX5_listen_202 : decode cX5_listen 202 = .ok (.if_icmp .ge 8, 3) := by decide +kernel
theorem dX5_listen_205 : decode cX5_listen 205 = .ok (.iload 6, 2) := by decide +kernel
theorem dX5_listen_207 : decode cX5_listen 207 = .ok (.goto 5, 3) := by decide +kernel
theorem dX5_listen_210 : decode cX5_listen 210 = .ok (.iload 4, 2) := by decide +kernel
theorem dX5_listen_212 : decode cX5_listen 212 = .ok (.istore 4, 2) := by decide +kernel
theorem dX5_listen_214 : decode cX5_listen 214 = .ok (.iinc 5 1, 3) := by decide +kernel
theorem dX5_listen_217 : decode cX5_listen 217 = .ok (.goto (-87), 3) := by decide +kernel
theorem dX5_listen_220 : decode cX5_listen 220 = .ok (.iload_n 3, 1) := by decide +kernel
theorem dX5_listen_221 : decode cX5_listen 221 = .ok (.ireturn, 1) := by decide +kernel
theorem dX5_rate_0 : decode cX5_rate 0 = .ok (.aload_n 0, 1) := by decide +kernel
theorem dX5_rate_1 : decode cX5_rate 1 = .ok (.iconst 0, 1) := by decide +kernel
theorem dX5_rate_2 : decode cX5_rate 2 = .ok (.putfield 54, 3) := by decide +kernel
theorem dX5_rate_5 : decode cX5_rate 5 = .ok (.iload_n 1, 1) := by decide +kernel
theorem dX5_rate_6 : decode cX5_rate 6 = .ok (.iconst 0, 1) := by decide +kernel
theorem dX5_rate_7 : decode cX5_rate 7 = .ok (.iconst 5, 1) := by decide +kernel
theorem dX5_rate_8 : decode cX5_rate 8 = .ok (.invokestatic 57, 3) := by decide +kernel
theorem dX5_rate_11 : decode cX5_rate 11 = .ok (.ifCond .eq 11, 3) := by decide +kernel
theorem dX5_rate_14 : decode cX5_rate 14 = .ok (.aload_n 0, 1) := by decide +kernel
theorem dX5_rate_15 : decode cX5_rate 15 = .ok (.iload_n 2, 1) := by decide +kernel
theorem dX5_rate_16 : decode cX5_rate 16 = .ok (.invokevirtual 158, 3) := by decide +kernel
theorem dX5_rate_19 : decode cX5_rate 19 = .ok (.ifCond .ne 6, 3) := by decide +kernel
theorem dX5_rate_22 : decode cX5_rate 22 = .ok (.ldc 189, 2) := by decide +kernel
theorem dX5_rate_24 : decode cX5_rate 24 = .ok (.ireturn, 1) := by decide +kernel
theorem dX5_rate_25 : decode cX5_rate 25 = .ok (.aload_n 0, 1) := by decide +kernel
theorem dX5_rate_26 : decode cX5_rate 26 = .ok (.getfield 13, 3) := by decide +kernel
theorem dX5_rate_29 : decode cX5_rate 29 = .ok (.iload_n 2, 1) := by decide +kernel
theorem dX5_rate_30 : decode cX5_rate 30 = .ok (.iaload, 1) := by decide +kernel
theorem dX5_rate_31 : decode cX5_rate 31 = .ok (.istore_n 3, 1) := by decide +kernel
theorem dX5_rate_32 : decode cX5_rate 32 = .ok (.iload_n 3, 1) := by decide +kernel
theorem dX5_rate_33 : decode cX5_rate 33 = .ok (.aload_n 0, 1) := by decide +kernel
theorem dX5_rate_34 : decode cX5_rate 34 = .ok (.getfield 22, 3) := by decide +kernel
theorem dX5_rate_37 : decode cX5_rate 37 = .ok (.bipush 11, 2) := by decide +kernel
theorem dX5_rate_39 : decode cX5_rate 39 = .ok (.iload_n 2, 1) := by decide +kernel
theorem dX5_rate_40 : decode cX5_rate 40 = .ok (.iadd, 1) := by decide +kernel
theorem dX5_rate_41 : decode cX5_rate 41 = .ok (.iaload, 1) := by decide +kernel
theorem dX5_rate_42 : decode cX5_rate 42 = .ok (.iadd, 1) := by decide +kernel
theorem dX5_rate_43 : decode cX5_rate 43 = .ok (.istore 4, 2) := by decide +kernel
theorem dX5_rate_45 : decode cX5_rate 45 = .ok (.iload_n 3, 1) := by decide +kernel
theorem dX5_rate_46 : decode cX5_rate 46 = .ok (.aload_n 0, 1) := by decide +kernel
theorem dX5_rate_47 : decode cX5_rate 47 = .ok (.getfield 22, 3) := by decide +kernel
theorem dX5_rate_50 : decode cX5_rate 50 = .ok (.iconst 2, 1) := by decide +kernel
theorem dX5_rate_51 : decode cX5_rate 51 = .ok (.iaload, 1) := by decide +kernel
theorem dX5_rate_52 : decode cX5_rate 52 = .ok (.isub, 1) := by decide +kernel
theorem dX5_rate_53 : decode cX5_rate 53 = .ok (.istore 5, 2) := by decide +kernel
theorem dX5_rate_55 : decode cX5_rate 55 = .ok (.aload_n 0, 1) := by decide +kernel
theorem dX5_rate_56 : decode cX5_rate 56 = .ok (.dup, 1) := by decide +kernel
theorem dX5_rate_57 : decode cX5_rate 57 = .ok (.getfield 190, 3) := by decide +kernel
theorem dX5_rate_60 : decode cX5_rate 60 = .ok (.iload_n 1, 1) := by decide +kernel
theorem dX5_rate_61 : decode cX5_rate 61 = .ok (.ifCond .ne 7, 3) := by decide +kernel
theorem dX5_rate_64 : decode cX5_rate 64 = .ok (.lconst 1, 1) := by decide +kernel
theorem dX5_rate_65 : decode cX5_rate 65 = .ok (.goto 50, 3) := by decide +kernel
theorem dX5_rate_68 : decode cX5_rate 68 = .ok (.iload_n 1, 1) := by decide +kernel
theorem dX5_rate_69 : decode cX5_rate 69 = .ok (.iconst 1, 1) := by decide +kernel
theorem dX5_rate_70 : decode cX5_rate 70 = .ok (.if_icmp .ne 9, 3) := by decide +kernel
theorem dX5_rate_73 : decode cX5_rate 73 = .ok (.ldc2_w 194, 3) := by decide +kernel
theorem dX5_rate_76 : decode cX5_rate 76 = .ok (.goto 39, 3) := by decide +kernel
theorem dX5_rate_79 : decode cX5_rate 79 = .ok (.iload_n 1, 1) := by decide +kernel
theorem dX5_rate_80 : decode cX5_rate 80 = .ok (.iconst 2, 1) := by decide +kernel
theorem dX5_rate_81 : decode cX5_rate 81 = .ok (.if_icmp .ne 9, 3) := by decide +kernel
theorem dX5_rate_84 : decode cX5_rate 84 = .ok (.ldc2_w 196, 3) := by decide +kernel
theorem dX5_rate_87 : decode cX5_rate 87 = .ok (.goto 28, 3) := by decide +kernel
theorem dX5_rate_90 : decode cX5_rate 90 = .ok (.iload_n 1, 1) := by decide +kernel
theorem dX5_rate_91 : decode cX5_rate 91 = .ok (.iconst 3, 1) := by decide +kernel
theorem dX5_rate_92 : decode cX5_rate 92 = .ok (.if_icmp .ne 9, 3) := by decide +kernel
theorem dX5_rate_95 : decode cX5_rate 95 = .ok (.ldc2_w 198, 3) := by decide +kernel
theorem dX5_rate_98 : decode cX5_rate 98 = .ok (.goto 17, 3) := by decide +kernel
theorem dX5_rate_101 : decode cX5_rate 101 = .ok (.iload_n 1, 1) := by decide +kernel
theorem dX5_rate_102 : decode cX5_rate 102 = .ok (.iconst 4, 1) := by decide +kernel
theorem dX5_rate_103 : decode cX5_rate 103 = .ok (.if_icmp .ne 9, 3) := by decide +kernel
theorem dX5_rate_106 : decode cX5_rate 106 = .ok (.ldc2_w 200, 3) := by decide +kernel
theorem dX5_rate_109 : decode cX5_rate 109 = .ok (.goto 6, 3) := by decide +kernel
theorem dX5_rate_112 : decode cX5_rate 112 = .ok (.ldc2_w 202, 3) := by decide +kernel
theorem dX5_rate_115 : decode cX5_rate 115 = .ok (.ladd, 1) := by decide +kernel
theorem dX5_rate_116 : decode cX5_rate 116 = .ok (.putfield 190, 3) := by decide +kernel
theorem dX5_rate_119 : decode cX5_rate 119 = .ok (.iload_n 1, 1) := by decide +kernel
theorem dX5_rate_120 : decode cX5_rate 120 = .ok (.ifCond .ne 7, 3) := by decide +kernel
theorem dX5_rate_123 : decode cX5_rate 123 = .ok (.iload_n 3, 1) := by decide +kernel
theorem dX5_rate_124 : decode cX5_rate 124 = .ok (.goto 55, 3) := by decide +kernel
theorem dX5_rate_127 : decode cX5_rate 127 = .ok (.iload_n 1, 1) := by decide +kernel
theorem dX5_rate_128 : decode cX5_rate 128 = .ok (.iconst 1, 1) := by decide +kernel
theorem dX5_rate_129 : decode cX5_rate 129 = .ok (.if_icmp .ne 8, 3) := by decide +kernel
theorem dX5_rate_132 : decode cX5_rate 132 = .ok (.iload 4, 2) := by decide +kernel
theorem dX5_rate_134 : decode cX5_rate 134 = .ok (.goto 45, 3) := by decide +kernel
theorem dX5_rate_137 : decode cX5_rate 137 = .ok (.iload_n 1, 1) := by decide +kernel
theorem dX5_rate_138 : decode cX5_rate 138 = .ok (.iconst 2, 1) := by decide +kernel
theorem dX5_rate_139 : decode cX5_rate 139 = .ok (.if_icmp .ne 8, 3) := by decide +kernel
theorem dX5_rate_142 : decode cX5_rate 142 = .ok (.iload 5, 2) := by decide +kernel
theorem dX5_rate_144 : decode cX5_rate 144 = .ok (.goto 35, 3) := by decide +kernel
theorem dX5_rate_147 : decode cX5_rate 147 = .ok (.iload_n 1, 1) := by decide +kernel
theorem dX5_rate_148 : decode cX5_rate 148 = .ok (.iconst 3, 1) := by decide +kernel
theorem dX5_rate_149 : decode cX5_rate 149 = .ok (.if_icmp .ne 10, 3) := by decide +kernel
theorem dX5_rate_152 : decode cX5_rate 152 = .ok (.iconst 2, 1) := by decide +kernel
theorem dX5_rate_153 : decode cX5_rate 153 = .ok (.iload 4, 2) := by decide +kernel
theorem dX5_rate_155 : decode cX5_rate 155 = .ok (.imul, 1) := by decide +kernel
theorem dX5_rate_156 : decode cX5_rate 156 = .ok (.goto 23, 3) := by decide +kernel
theorem dX5_rate_159 : decode cX5_rate 159 = .ok (.iload_n 1, 1) := by decide +kernel
theorem dX5_rate_160 : decode cX5_rate 160 = .ok (.iconst 4, 1) := by decide +kernel
theorem dX5_rate_161 : decode cX5_rate 161 = .ok (.if_icmp .ne 10, 3) := by decide +kernel
theorem dX5_rate_164 : decode cX5_rate 164 = .ok (.iload 5, 2) := by decide +kernel
theorem dX5_rate_166 : decode cX5_rate 166 = .ok (.iload_n 2, 1) := by decide +kernel
theorem dX5_rate_167 : decode cX5_rate 167 = .ok (.iadd, 1) := by decide +kernel
theorem dX5_rate_168 : decode cX5_rate 168 = .ok (.goto 11, 3) := by decide +kernel
theorem dX5_rate_171 : decode cX5_rate 171 = .ok (.iload_n 3, 1) := by decide +kernel
theorem dX5_rate_172 : decode cX5_rate 172 = .ok (.aload_n 0, 1) := by decide +kernel
theorem dX5_rate_173 : decode cX5_rate 173 = .ok (.getfield 22, 3) := by decide +kernel
theorem dX5_rate_176 : decode cX5_rate 176 = .ok (.iconst 0, 1) := by decide +kernel
theorem dX5_rate_177 : decode cX5_rate 177 = .ok (.iaload, 1) := by decide +kernel
theorem dX5_rate_178 : decode cX5_rate 178 = .ok (.iadd, 1) := by decide +kernel
theorem dX5_rate_179 : decode cX5_rate 179 = .ok (.ireturn, 1) := by decide +kernel
theorem dX5_keep_0 : decode cX5_keep 0 = .ok (.aload_n 0, 1) := by decide +kernel
theorem dX5_keep_1 : decode cX5_keep 1 = .ok (.iconst 0, 1) := by decide +kernel
theorem dX5_keep_2 : decode cX5_keep 2 = .ok (.putfield 54, 3) := by decide +kernel
theorem dX5_keep_5 : decode cX5_keep 5 = .ok (.iload_n 1, 1) := by decide +kernel
theorem dX5_keep_6 : decode cX5_keep 6 = .ok (.iconst 0, 1) := by decide +kernel
theorem dX5_keep_7 : decode cX5_keep 7 = .ok (.iconst 1, 1) := by decide +kernel
theorem dX5_keep_8 : decode cX5_keep 8 = .ok (.invokestatic 57, 3) := by decide +kernel
theorem dX5_keep_11 : decode cX5_keep 11 = .ok (.ifCond .ne 5, 3) := by decide +kernel
theorem dX5_keep_14 : decode cX5_keep 14 = .ok (.iconst (-1), 1) := by decide +kernel
theorem dX5_keep_15 : decode cX5_keep 15 = .ok (.ireturn, 1) := by decide +kernel
theorem dX5_keep_16 : decode cX5_keep 16 = .ok (.iconst 0, 1) := by decide +kernel
theorem dX5_keep_17 : decode cX5_keep 17 = .ok (.istore_n 2, 1) := by decide +kernel
theorem dX5_keep_18 : decode cX5_keep 18 = .ok (.iload_n 2, 1) := by decide +kernel
theorem dX5_keep_19 : decode cX5_keep 19 = .ok (.bipush 19, 2) := by decide +kernel
theorem dX5_keep_21 : decode cX5_keep 21 = .ok (.if_icmp .ge 26, 3) := by decide +kernel
theorem dX5_keep_24 : decode cX5_keep 24 = .ok (.aload_n 0, 1) := by decide +kernel
theorem dX5_keep_25 : decode cX5_keep 25 = .ok (.getfield 28, 3) := by decide +kernel
theorem dX5_keep_28 : decode cX5_keep 28 = .ok (.bipush 19, 2) := by decide +kernel
theorem dX5_keep_30 : decode cX5_keep 30 = .ok (.iload_n 1, 1) := by decide +kernel
theorem dX5_keep_31 : decode cX5_keep 31 = .ok (.imul, 1) := by decide +kernel
theorem dX5_keep_32 : decode cX5_keep 32 = .ok (.iload_n 2, 1) := by decide +kernel
theorem dX5_keep_33 : decode cX5_keep 33 = .ok (.iadd, 1) := by decide +kernel
theorem dX5_keep_34 : decode cX5_keep 34 = .ok (.aload_n 0, 1) := by decide +kernel
theorem dX5_keep_35 : decode cX5_keep 35 = .ok (.getfield 22, 3) := by decide +kernel
theorem dX5_keep_38 : decode cX5_keep 38 = .ok (.iload_n 2, 1) := by decide +kernel
theorem dX5_keep_39 : decode cX5_keep 39 = .ok (.iaload, 1) := by decide +kernel
theorem dX5_keep_40 : decode cX5_keep 40 = .ok (.iastore, 1) := by decide +kernel
theorem dX5_keep_41 : decode cX5_keep 41 = .ok (.iinc 2 1, 3) := by decide +kernel
theorem dX5_keep_44 : decode cX5_keep 44 = .ok (.goto (-26), 3) := by decide +kernel
theorem dX5_keep_47 : decode cX5_keep 47 = .ok (.aload_n 0, 1) := by decide +kernel
theorem dX5_keep_48 : decode cX5_keep 48 = .ok (.getfield 31, 3) := by decide +kernel
theorem dX5_keep_51 : decode cX5_keep 51 = .ok (.iload_n 1, 1) := by decide +kernel
theorem dX5_keep_52 : decode cX5_keep 52 = .ok (.iconst 1, 1) := by decide +kernel
theorem dX5_keep_53 : decode cX5_keep 53 = .ok (.bastore, 1) := by decide +kernel
theorem dX5_keep_54 : decode cX5_keep 54 = .ok (.aload_n 0, 1) := by decide +kernel
theorem dX5_keep_55 : decode cX5_keep 55 = .ok (.getfield 22, 3) := by decide +kernel
theorem dX5_keep_58 : decode cX5_keep 58 = .ok (.iconst 0, 1) := by decide +kernel
theorem dX5_keep_59 : decode cX5_keep 59 = .ok (.iaload, 1) := by decide +kernel
theorem dX5_keep_60 : decode cX5_keep 60 = .ok (.ireturn, 1) := by decide +kernel
theorem dX5_back_0 : decode cX5_back 0 = .ok (.aload_n 0, 1) := by decide +kernel
theorem dX5_back_1 : decode cX5_back 1 = .ok (.iconst 0, 1) := by decide +kernel
theorem dX5_back_2 : decode cX5_back 2 = .ok (.putfield 54, 3) := by decide +kernel
theorem dX5_back_5 : decode cX5_back 5 = .ok (.iload_n 1, 1) := by decide +kernel
theorem dX5_back_6 : decode cX5_back 6 = .ok (.iconst 0, 1) := by decide +kernel
theorem dX5_back_7 : decode cX5_back 7 = .ok (.iconst 1, 1) := by decide +kernel
theorem dX5_back_8 : decode cX5_back 8 = .ok (.invokestatic 57, 3) := by decide +kernel
theorem dX5_back_11 : decode cX5_back 11 = .ok (.ifCond .ne 5, 3) := by decide +kernel
theorem dX5_back_14 : decode cX5_back 14 = .ok (.iconst (-1), 1) := by decide +kernel
theorem dX5_back_15 : decode cX5_back 15 = .ok (.ireturn, 1) := by decide +kernel
theorem dX5_back_16 : decode cX5_back 16 = .ok (.aload_n 0, 1) := by decide +kernel
theorem dX5_back_17 : decode cX5_back 17 = .ok (.getfield 31, 3) := by decide +kernel
theorem dX5_back_20 : decode cX5_back 20 = .ok (.iload_n 1, 1) := by decide +kernel
theorem dX5_back_21 : decode cX5_back 21 = .ok (.baload, 1) := by decide +kernel
theorem dX5_back_22 : decode cX5_back 22 = .ok (.ifCond .ne 6, 3) := by decide +kernel
theorem dX5_back_25 : decode cX5_back 25 = .ok (.bipush (-2), 2) := by decide +kernel
theorem dX5_back_27 : decode cX5_back 27 = .ok (.ireturn, 1) := by decide +kernel
theorem dX5_back_28 : decode cX5_back 28 = .ok (.iconst 0, 1) := by decide +kernel
theorem dX5_back_29 : decode cX5_back 29 = .ok (.istore_n 2, 1) := by decide +kernel
theorem dX5_back_30 : decode cX5_back 30 = .ok (.iload_n 2, 1) := by decide +kernel
theorem dX5_back_31 : decode cX5_back 31 = .ok (.bipush 19, 2) := by decide +kernel
theorem dX5_back_33 : decode cX5_back 33 = .ok (.if_icmp .ge 26, 3) := by decide +kernel
theorem dX5_back_36 : decode cX5_back 36 = .ok (.aload_n 0, 1) := by decide +kernel
theorem dX5_back_37 : decode cX5_back 37 = .ok (.getfield 22, 3) := by decide +kernel
theorem dX5_back_40 : decode cX5_back 40 = .ok (.iload_n 2, 1) := by decide +kernel
theorem dX5_back_41 : decode cX5_back 41 = .ok (.aload_n 0, 1) := by decide +kernel
theorem dX5_back_42 : decode cX5_back 42 = .ok (.getfield 28, 3) := by decide +kernel
theorem dX5_back_45 : decode cX5_back 45 = .ok (.bipush 19, 2) := by decide +kernel
theorem dX5_back_47 : decode cX5_back 47 = .ok (.iload_n 1, 1) := by decide +kernel
theorem dX5_back_48 : decode cX5_back 48 = .ok (.imul, 1) := by decide +kernel
theorem dX5_back_49 : decode cX5_back 49 = .ok (.iload_n 2, 1) := by decide +kernel
theorem dX5_back_50 : decode cX5_back 50 = .ok (.iadd, 1) := by decide +kernel
theorem dX5_back_51 : decode cX5_back 51 = .ok (.iaload, 1) := by decide +kernel
theorem dX5_back_52 : decode cX5_back 52 = .ok (.iastore, 1) := by decide +kernel
theorem dX5_back_53 : decode cX5_back 53 = .ok (.iinc 2 1, 3) := by decide +kernel
theorem dX5_back_56 : decode cX5_back 56 = .ok (.goto (-26), 3) := by decide +kernel
theorem dX5_back_59 : decode cX5_back 59 = .ok (.aload_n 0, 1) := by decide +kernel
theorem dX5_back_60 : decode cX5_back 60 = .ok (.iconst 0, 1) := by decide +kernel
theorem dX5_back_61 : decode cX5_back 61 = .ok (.putfield 121, 3) := by decide +kernel
theorem dX5_back_64 : decode cX5_back 64 = .ok (.aload_n 0, 1) := by decide +kernel
theorem dX5_back_65 : decode cX5_back 65 = .ok (.getfield 22, 3) := by decide +kernel
theorem dX5_back_68 : decode cX5_back 68 = .ok (.iconst 0, 1) := by decide +kernel
theorem dX5_back_69 : decode cX5_back 69 = .ok (.iaload, 1) := by decide +kernel
theorem dX5_back_70 : decode cX5_back 70 = .ok (.ireturn, 1) := by decide +kernel
theorem dX5_count_0 : decode cX5_count 0 = .ok (.aload_n 0, 1) := by decide +kernel
theorem dX5_count_1 : decode cX5_count 1 = .ok (.iconst 0, 1) := by decide +kernel
theorem dX5_count_2 : decode cX5_count 2 = .ok (.putfield 54, 3) := by decide +kernel
theorem dX5_count_5 : decode cX5_count 5 = .ok (.iload_n 1, 1) := by decide +kernel
theorem dX5_count_6 : decode cX5_count 6 = .ok (.ifCond .ne 10, 3) := by decide +kernel
theorem dX5_count_9 : decode cX5_count 9 = .ok (.aload_n 0, 1) := by decide +kernel
theorem dX5_count_10 : decode cX5_count 10 = .ok (.getfield 115, 3) := by decide +kernel
theorem dX5_count_13 : decode cX5_count 13 = .ok (.goto 40, 3) := by decide +kernel
theorem dX5_count_16 : decode cX5_count 16 = .ok (.iload_n 1, 1) := by decide +kernel
theorem dX5_count_17 : decode cX5_count 17 = .ok (.iconst 1, 1) := by decide +kernel
theorem dX5_count_18 : decode cX5_count 18 = .ok (.if_icmp .ne 10, 3) := by decide +kernel
theorem dX5_count_21 : decode cX5_count 21 = .ok (.aload_n 0, 1) := by decide +kernel
theorem dX5_count_22 : decode cX5_count 22 = .ok (.getfield 50, 3) := by decide +kernel
theorem dX5_count_25 : decode cX5_count 25 = .ok (.goto 28, 3) := by decide +kernel
theorem dX5_count_28 : decode cX5_count 28 = .ok (.iload_n 1, 1) := by decide +kernel
theorem dX5_count_29 : decode cX5_count 29 = .ok (.iconst 2, 1) := by decide +kernel
theorem dX5_count_30 : decode cX5_count 30 = .ok (.if_icmp .ne 10, 3) := by decide +kernel
theorem dX5_count_33 : decode cX5_count 33 = .ok (.aload_n 0, 1) := by decide +kernel
theorem dX5_count_34 : decode cX5_count 34 = .ok (.getfield 118, 3) := by decide +kernel
theorem dX5_count_37 : decode cX5_count 37 = .ok (.goto 16, 3) := by decide +kernel
theorem dX5_count_40 : decode cX5_count 40 = .ok (.iload_n 1, 1) := by decide +kernel
theorem dX5_count_41 : decode cX5_count 41 = .ok (.iconst 3, 1) := by decide +kernel
theorem dX5_count_42 : decode cX5_count 42 = .ok (.if_icmp .ne 10, 3) := by decide +kernel
theorem dX5_count_45 : decode cX5_count 45 = .ok (.aload_n 0, 1) := by decide +kernel
theorem dX5_count_46 : decode cX5_count 46 = .ok (.getfield 61, 3) := by decide +kernel
theorem dX5_count_49 : decode cX5_count 49 = .ok (.goto 4, 3) := by decide +kernel
theorem dX5_count_52 : decode cX5_count 52 = .ok (.iconst (-1), 1) := by decide +kernel
theorem dX5_count_53 : decode cX5_count 53 = .ok (.ireturn, 1) := by decide +kernel
theorem dX5_trace_0 : decode cX5_trace 0 = .ok (.aload_n 0, 1) := by decide +kernel
theorem dX5_trace_1 : decode cX5_trace 1 = .ok (.iconst 0, 1) := by decide +kernel
theorem dX5_trace_2 : decode cX5_trace 2 = .ok (.putfield 54, 3) := by decide +kernel
theorem dX5_trace_5 : decode cX5_trace 5 = .ok (.aload_n 0, 1) := by decide +kernel
theorem dX5_trace_6 : decode cX5_trace 6 = .ok (.getfield 190, 3) := by decide +kernel
theorem dX5_trace_9 : decode cX5_trace 9 = .ok (.lreturn, 1) := by decide +kernel
