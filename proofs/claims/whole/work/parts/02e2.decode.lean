theorem dX2_takeFirst_10 : decode cX2_takeFirst 10 = .ok (.getfield 21, 3) := by decide +kernel
theorem dX2_takeFirst_13 : decode cX2_takeFirst 13 = .ok (.istore_n 1, 1) := by decide +kernel
theorem dX2_takeFirst_14 : decode cX2_takeFirst 14 = .ok (.aload_n 0, 1) := by decide +kernel
theorem dX2_takeFirst_15 : decode cX2_takeFirst 15 = .ok (.aload_n 0, 1) := by decide +kernel
theorem dX2_takeFirst_16 : decode cX2_takeFirst 16 = .ok (.getfield 21, 3) := by decide +kernel
theorem dX2_takeFirst_19 : decode cX2_takeFirst 19 = .ok (.putfield 18, 3) := by decide +kernel
theorem dX2_takeFirst_22 : decode cX2_takeFirst 22 = .ok (.aload_n 0, 1) := by decide +kernel
theorem dX2_takeFirst_23 : decode cX2_takeFirst 23 = .ok (.iconst 0, 1) := by decide +kernel
theorem dX2_takeFirst_24 : decode cX2_takeFirst 24 = .ok (.putfield 21, 3) := by decide +kernel
theorem dX2_takeFirst_27 : decode cX2_takeFirst 27 = .ok (.aload_n 0, 1) := by decide +kernel
theorem dX2_takeFirst_28 : decode cX2_takeFirst 28 = .ok (.dup, 1) := by decide +kernel
theorem dX2_takeFirst_29 : decode cX2_takeFirst 29 = .ok (.getfield 18, 3) := by decide +kernel
theorem dX2_takeFirst_32 : decode cX2_takeFirst 32 = .ok (.iconst 1, 1) := by decide +kernel
theorem dX2_takeFirst_33 : decode cX2_takeFirst 33 = .ok (.isub, 1) := by decide +kernel
theorem dX2_takeFirst_34 : decode cX2_takeFirst 34 = .ok (.putfield 18, 3) := by decide +kernel
theorem dX2_takeFirst_37 : decode cX2_takeFirst 37 = .ok (.iload_n 1, 1) := by decide +kernel
theorem dX2_takeFirst_38 : decode cX2_takeFirst 38 = .ok (.iconst 1, 1) := by decide +kernel
theorem dX2_takeFirst_39 : decode cX2_takeFirst 39 = .ok (.iadd, 1) := by decide +kernel
theorem dX2_takeFirst_40 : decode cX2_takeFirst 40 = .ok (.ireturn, 1) := by decide +kernel
theorem dX4_init_0 : decode cX4_init 0 = .ok (.aload_n 0, 1) := by decide +kernel
theorem dX4_init_1 : decode cX4_init 1 = .ok (.invokespecial 3, 3) := by decide +kernel
theorem dX4_init_4 : decode cX4_init 4 = .ok (.aload_n 0, 1) := by decide +kernel
theorem dX4_init_5 : decode cX4_init 5 = .ok (.iconst 0, 1) := by decide +kernel
theorem dX4_init_6 : decode cX4_init 6 = .ok (.putfield 9, 3) := by decide +kernel
theorem dX4_init_9 : decode cX4_init 9 = .ok (.aload_n 0, 1) := by decide +kernel
theorem dX4_init_10 : decode cX4_init 10 = .ok (.iconst 0, 1) := by decide +kernel
theorem dX4_init_11 : decode cX4_init 11 = .ok (.putfield 15, 3) := by decide +kernel
theorem dX4_init_14 : decode cX4_init 14 = .ok (.aload_n 0, 1) := by decide +kernel
theorem dX4_init_15 : decode cX4_init 15 = .ok (.aconst_null, 1) := by decide +kernel
theorem dX4_init_16 : decode cX4_init 16 = .ok (.putfield 18, 3) := by decide +kernel
theorem dX4_init_19 : decode cX4_init 19 = .ok (.aload_n 0, 1) := by decide +kernel
theorem dX4_init_20 : decode cX4_init 20 = .ok (.aconst_null, 1) := by decide +kernel
theorem dX4_init_21 : decode cX4_init 21 = .ok (.putfield 22, 3) := by decide +kernel
theorem dX4_init_24 : decode cX4_init 24 = .ok (.aload_n 0, 1) := by decide +kernel
theorem dX4_init_25 : decode cX4_init 25 = .ok (.aconst_null, 1) := by decide +kernel
theorem dX4_init_26 : decode cX4_init 26 = .ok (.putfield 25, 3) := by decide +kernel
theorem dX4_init_29 : decode cX4_init 29 = .ok (.aload_n 0, 1) := by decide +kernel
theorem dX4_init_30 : decode cX4_init 30 = .ok (.aconst_null, 1) := by decide +kernel
theorem dX4_init_31 : decode cX4_init 31 = .ok (.putfield 28, 3) := by decide +kernel
theorem dX4_init_34 : decode cX4_init 34 = .ok (.return_, 1) := by decide +kernel
theorem dX4_copyFrom_0 : decode cX4_copyFrom 0 = .ok (.aload_n 0, 1) := by decide +kernel
theorem dX4_copyFrom_1 : decode cX4_copyFrom 1 = .ok (.aload_n 1, 1) := by decide +kernel
theorem dX4_copyFrom_2 : decode cX4_copyFrom 2 = .ok (.getfield 9, 3) := by decide +kernel
theorem dX4_copyFrom_5 : decode cX4_copyFrom 5 = .ok (.putfield 9, 3) := by decide +kernel
theorem dX4_copyFrom_8 : decode cX4_copyFrom 8 = .ok (.aload_n 0, 1) := by decide +kernel
theorem dX4_copyFrom_9 : decode cX4_copyFrom 9 = .ok (.aload_n 1, 1) := by decide +kernel
theorem dX4_copyFrom_10 : decode cX4_copyFrom 10 = .ok (.getfield 15, 3) := by decide +kernel
theorem dX4_copyFrom_13 : decode cX4_copyFrom 13 = .ok (.putfield 15, 3) := by decide +kernel
theorem dX4_copyFrom_16 : decode cX4_copyFrom 16 = .ok (.aload_n 0, 1) := by decide +kernel
theorem dX4_copyFrom_17 : decode cX4_copyFrom 17 = .ok (.aload_n 1, 1) := by decide +kernel
theorem dX4_copyFrom_18 : decode cX4_copyFrom 18 = .ok (.getfield 18, 3) := by decide +kernel
theorem dX4_copyFrom_21 : decode cX4_copyFrom 21 = .ok (.putfield 18, 3) := by decide +kernel
theorem dX4_copyFrom_24 : decode cX4_copyFrom 24 = .ok (.aload_n 0, 1) := by decide +kernel
theorem dX4_copyFrom_25 : decode cX4_copyFrom 25 = .ok (.aload_n 1, 1) := by decide +kernel
theorem dX4_copyFrom_26 : decode cX4_copyFrom 26 = .ok (.getfield 22, 3) := by decide +kernel
theorem dX4_copyFrom_29 : decode cX4_copyFrom 29 = .ok (.putfield 22, 3) := by decide +kernel
theorem dX4_copyFrom_32 : decode cX4_copyFrom 32 = .ok (.aload_n 0, 1) := by decide +kernel
theorem dX4_copyFrom_33 : decode cX4_copyFrom 33 = .ok (.aload_n 1, 1) := by decide +kernel
theorem dX4_copyFrom_34 : decode cX4_copyFrom 34 = .ok (.getfield 25, 3) := by decide +kernel
theorem dX4_copyFrom_37 : decode cX4_copyFrom 37 = .ok (.putfield 25, 3) := by decide +kernel
theorem dX4_copyFrom_40 : decode cX4_copyFrom 40 = .ok (.aload_n 0, 1) := by decide +kernel
theorem dX4_copyFrom_41 : decode cX4_copyFrom 41 = .ok (.aload_n 1, 1) := by decide +kernel
theorem dX4_copyFrom_42 : decode cX4_copyFrom 42 = .ok (.getfield 28, 3) := by decide +kernel
theorem dX4_copyFrom_45 : decode cX4_copyFrom 45 = .ok (.putfield 28, 3) := by decide +kernel
theorem dX4_copyFrom_48 : decode cX4_copyFrom 48 = .ok (.return_, 1) := by decide +kernel
theorem dX4_begin_0 : decode cX4_begin 0 = .ok (.aload_n 0, 1) := by decide +kernel
theorem dX4_begin_1 : decode cX4_begin 1 = .ok (.iconst 1, 1) := by decide +kernel
theorem dX4_begin_2 : decode cX4_begin 2 = .ok (.putfield 9, 3) := by decide +kernel
theorem dX4_begin_5 : decode cX4_begin 5 = .ok (.aload_n 0, 1) := by decide +kernel
theorem dX4_begin_6 : decode cX4_begin 6 = .ok (.iconst 0, 1) := by decide +kernel
theorem dX4_begin_7 : decode cX4_begin 7 = .ok (.putfield 15, 3) := by decide +kernel
theorem dX4_begin_10 : decode cX4_begin 10 = .ok (.aload_n 0, 1) := by decide +kernel
theorem dX4_begin_11 : decode cX4_begin 11 = .ok (.aload_n 1, 1) := by decide +kernel
theorem dX4_begin_12 : decode cX4_begin 12 = .ok (.putfield 18, 3) := by decide +kernel
theorem dX4_begin_15 : decode cX4_begin 15 = .ok (.aload_n 0, 1) := by decide +kernel
theorem dX4_begin_16 : decode cX4_begin 16 = .ok (.aconst_null, 1) := by decide +kernel
theorem dX4_begin_17 : decode cX4_begin 17 = .ok (.putfield 22, 3) := by decide +kernel
theorem dX4_begin_20 : decode cX4_begin 20 = .ok (.aload_n 0, 1) := by decide +kernel
theorem dX4_begin_21 : decode cX4_begin 21 = .ok (.aload_n 2, 1) := by decide +kernel
theorem dX4_begin_22 : decode cX4_begin 22 = .ok (.putfield 25, 3) := by decide +kernel
theorem dX4_begin_25 : decode cX4_begin 25 = .ok (.aload_n 0, 1) := by decide +kernel
theorem dX4_begin_26 : decode cX4_begin 26 = .ok (.aconst_null, 1) := by decide +kernel
theorem dX4_begin_27 : decode cX4_begin 27 = .ok (.putfield 28, 3) := by decide +kernel
theorem dX4_begin_30 : decode cX4_begin 30 = .ok (.return_, 1) := by decide +kernel
theorem dX4_step_0 : decode cX4_step 0 = .ok (.aload_n 0, 1) := by decide +kernel
theorem dX4_step_1 : decode cX4_step 1 = .ok (.getfield 9, 3) := by decide +kernel
theorem dX4_step_4 : decode cX4_step 4 = .ok (.iconst 1, 1) := by decide +kernel
theorem dX4_step_5 : decode cX4_step 5 = .ok (.if_icmp .ne 95, 3) := by decide +kernel
theorem dX4_step_8 : decode cX4_step 8 = .ok (.aload_n 0, 1) := by decide +kernel
theorem dX4_step_9 : decode cX4_step 9 = .ok (.getfield 18, 3) := by decide +kernel
theorem dX4_step_12 : decode cX4_step 12 = .ok (.ifnull 88, 3) := by decide +kernel
theorem dX4_step_15 : decode cX4_step 15 = .ok (.aload_n 0, 1) := by decide +kernel
theorem dX4_step_16 : decode cX4_step 16 = .ok (.getfield 25, 3) := by decide +kernel
theorem dX4_step_19 : decode cX4_step 19 = .ok (.ifnull 81, 3) := by decide +kernel
theorem dX4_step_22 : decode cX4_step 22 = .ok (.aload_n 0, 1) := by decide +kernel
theorem dX4_step_23 : decode cX4_step 23 = .ok (.new 31, 3) := by decide +kernel
theorem dX4_step_26 : decode cX4_step 26 = .ok (.dup, 1) := by decide +kernel
theorem dX4_step_27 : decode cX4_step 27 = .ok (.aload_n 0, 1) := by decide +kernel
theorem dX4_step_28 : decode cX4_step 28 = .ok (.getfield 18, 3) := by decide +kernel
theorem dX4_step_31 : decode cX4_step 31 = .ok (.getfield 33, 3) := by decide +kernel
theorem dX4_step_34 : decode cX4_step 34 = .ok (.aload_n 0, 1) := by decide +kernel
theorem dX4_step_35 : decode cX4_step 35 = .ok (.getfield 22, 3) := by decide +kernel
theorem dX4_step_38 : decode cX4_step 38 = .ok (.invokespecial 36, 3) := by decide +kernel
theorem dX4_step_41 : decode cX4_step 41 = .ok (.putfield 22, 3) := by decide +kernel
theorem dX4_step_44 : decode cX4_step 44 = .ok (.aload_n 0, 1) := by decide +kernel
theorem dX4_step_45 : decode cX4_step 45 = .ok (.new 31, 3) := by decide +kernel
theorem dX4_step_48 : decode cX4_step 48 = .ok (.dup, 1) := by decide +kernel
theorem dX4_step_49 : decode cX4_step 49 = .ok (.aload_n 0, 1) := by decide +kernel
theorem dX4_step_50 : decode cX4_step 50 = .ok (.getfield 25, 3) := by decide +kernel
theorem dX4_step_53 : decode cX4_step 53 = .ok (.getfield 33, 3) := by decide +kernel
theorem dX4_step_56 : decode cX4_step 56 = .ok (.aload_n 0, 1) := by decide +kernel
theorem dX4_step_57 : decode cX4_step 57 = .ok (.getfield 28, 3) := by decide +kernel
theorem dX4_step_60 : decode cX4_step 60 = .ok (.invokespecial 36, 3) := by decide +kernel
theorem dX4_step_63 : decode cX4_step 63 = .ok (.putfield 28, 3) := by decide +kernel
theorem dX4_step_66 : decode cX4_step 66 = .ok (.aload_n 0, 1) := by decide +kernel
theorem dX4_step_67 : decode cX4_step 67 = .ok (.aload_n 0, 1) := by decide +kernel
theorem dX4_step_68 : decode cX4_step 68 = .ok (.getfield 18, 3) := by decide +kernel
theorem dX4_step_71 : decode cX4_step 71 = .ok (.getfield 39, 3) := by decide +kernel
theorem dX4_step_74 : decode cX4_step 74 = .ok (.putfield 18, 3) := by decide +kernel
theorem dX4_step_77 : decode cX4_step 77 = .ok (.aload_n 0, 1) := by decide +kernel
theorem dX4_step_78 : decode cX4_step 78 = .ok (.aload_n 0, 1) := by decide +kernel
theorem dX4_step_79 : decode cX4_step 79 = .ok (.getfield 25, 3) := by decide +kernel
theorem dX4_step_82 : decode cX4_step 82 = .ok (.getfield 39, 3) := by decide +kernel
theorem dX4_step_85 : decode cX4_step 85 = .ok (.putfield 25, 3) := by decide +kernel
theorem dX4_step_88 : decode cX4_step 88 = .ok (.aload_n 0, 1) := by decide +kernel
theorem dX4_step_89 : decode cX4_step 89 = .ok (.dup, 1) := by decide +kernel
theorem dX4_step_90 : decode cX4_step 90 = .ok (.getfield 15, 3) := by decide +kernel
theorem dX4_step_93 : decode cX4_step 93 = .ok (.iconst 1, 1) := by decide +kernel
theorem dX4_step_94 : decode cX4_step 94 = .ok (.iadd, 1) := by decide +kernel
theorem dX4_step_95 : decode cX4_step 95 = .ok (.putfield 15, 3) := by decide +kernel
theorem dX4_step_98 : decode cX4_step 98 = .ok (.iconst 1, 1) := by decide +kernel
theorem dX4_step_99 : decode cX4_step 99 = .ok (.ireturn, 1) := by decide +kernel
theorem dX4_step_100 : decode cX4_step 100 = .ok (.aload_n 0, 1) := by decide +kernel
theorem dX4_step_101 : decode cX4_step 101 = .ok (.getfield 9, 3) := by decide +kernel
theorem dX4_step_104 : decode cX4_step 104 = .ok (.iconst 1, 1) := by decide +kernel
theorem dX4_step_105 : decode cX4_step 105 = .ok (.if_icmp .ne 61, 3) := by decide +kernel
theorem dX4_step_108 : decode cX4_step 108 = .ok (.aload_n 0, 1) := by decide +kernel
theorem dX4_step_109 : decode cX4_step 109 = .ok (.getfield 18, 3) := by decide +kernel
theorem dX4_step_112 : decode cX4_step 112 = .ok (.ifnonnull 54, 3) := by decide +kernel
theorem dX4_step_115 : decode cX4_step 115 = .ok (.aload_n 0, 1) := by decide +kernel
theorem dX4_step_116 : decode cX4_step 116 = .ok (.getfield 25, 3) := by decide +kernel
theorem dX4_step_119 : decode cX4_step 119 = .ok (.ifnull 47, 3) := by decide +kernel
theorem dX4_step_122 : decode cX4_step 122 = .ok (.aload_n 0, 1) := by decide +kernel
theorem dX4_step_123 : decode cX4_step 123 = .ok (.getfield 25, 3) := by decide +kernel
theorem dX4_step_126 : decode cX4_step 126 = .ok (.getfield 39, 3) := by decide +kernel
theorem dX4_step_129 : decode cX4_step 129 = .ok (.ifnonnull 37, 3) := by decide +kernel
theorem dX4_step_132 : decode cX4_step 132 = .ok (.aload_n 0, 1) := by decide +kernel
theorem dX4_step_133 : decode cX4_step 133 = .ok (.new 31, 3) := by decide +kernel
theorem dX4_step_136 : decode cX4_step 136 = .ok (.dup, 1) := by decide +kernel
theorem dX4_step_137 : decode cX4_step 137 = .ok (.aload_n 0, 1) := by decide +kernel
theorem dX4_step_138 : decode cX4_step 138 = .ok (.getfield 25, 3) := by decide +kernel
theorem dX4_step_141 : decode cX4_step 141 = .ok (.getfield 33, 3) := by decide +kernel
theorem dX4_step_144 : decode cX4_step 144 = .ok (.aload_n 0, 1) := by decide +kernel
theorem dX4_step_145 : decode cX4_step 145 = .ok (.getfield 28, 3) := by decide +kernel
theorem dX4_step_148 : decode cX4_step 148 = .ok (.invokespecial 36, 3) := by decide +kernel
theorem dX4_step_151 : decode cX4_step 151 = .ok (.putfield 28, 3) := by decide +kernel
theorem dX4_step_154 : decode cX4_step 154 = .ok (.aload_n 0, 1) := by decide +kernel
theorem dX4_step_155 : decode cX4_step 155 = .ok (.aconst_null, 1) := by decide +kernel
theorem dX4_step_156 : decode cX4_step 156 = .ok (.putfield 25, 3) := by decide +kernel
theorem dX4_step_159 : decode cX4_step 159 = .ok (.aload_n 0, 1) := by decide +kernel
theorem dX4_step_160 : decode cX4_step 160 = .ok (.iconst 2, 1) := by decide +kernel
theorem dX4_step_161 : decode cX4_step 161 = .ok (.putfield 9, 3) := by decide +kernel
theorem dX4_step_164 : decode cX4_step 164 = .ok (.iconst 1, 1) := by decide +kernel
theorem dX4_step_165 : decode cX4_step 165 = .ok (.ireturn, 1) := by decide +kernel
theorem dX4_step_166 : decode cX4_step 166 = .ok (.aload_n 0, 1) := by decide +kernel
theorem dX4_step_167 : decode cX4_step 167 = .ok (.getfield 9, 3) := by decide +kernel
theorem dX4_step_170 : decode cX4_step 170 = .ok (.iconst 2, 1) := by decide +kernel
theorem dX4_step_171 : decode cX4_step 171 = .ok (.if_icmp .ne 16, 3) := by decide +kernel
theorem dX4_step_174 : decode cX4_step 174 = .ok (.aload_n 0, 1) := by decide +kernel
theorem dX4_step_175 : decode cX4_step 175 = .ok (.getfield 15, 3) := by decide +kernel
theorem dX4_step_178 : decode cX4_step 178 = .ok (.ifCond .ne 9, 3) := by decide +kernel
theorem dX4_step_181 : decode cX4_step 181 = .ok (.aload_n 0, 1) := by decide +kernel
theorem dX4_step_182 : decode cX4_step 182 = .ok (.invokevirtual 42, 3) := by decide +kernel
theorem dX4_step_185 : decode cX4_step 185 = .ok (.iconst 1, 1) := by decide +kernel
theorem dX4_step_186 : decode cX4_step 186 = .ok (.ireturn, 1) := by decide +kernel
theorem dX4_step_187 : decode cX4_step 187 = .ok (.aload_n 0, 1) := by decide +kernel
theorem dX4_step_188 : decode cX4_step 188 = .ok (.getfield 9, 3) := by decide +kernel
theorem dX4_step_191 : decode cX4_step 191 = .ok (.iconst 2, 1) := by decide +kernel
theorem dX4_step_192 : decode cX4_step 192 = .ok (.if_icmp .ne 62, 3) := by decide +kernel
theorem dX4_step_195 : decode cX4_step 195 = .ok (.aload_n 0, 1) := by decide +kernel
theorem dX4_step_196 : decode cX4_step 196 = .ok (.getfield 15, 3) := by decide +kernel
theorem dX4_step_199 : decode cX4_step 199 = .ok (.ifCond .le 55, 3) := by decide +kernel
theorem dX4_step_202 : decode cX4_step 202 = .ok (.aload_n 0, 1) := by decide +kernel
theorem dX4_step_203 : decode cX4_step 203 = .ok (.getfield 22, 3) := by decide +kernel
theorem dX4_step_206 : decode cX4_step 206 = .ok (.ifnull 48, 3) := by decide +kernel
theorem dX4_step_209 : decode cX4_step 209 = .ok (.aload_n 0, 1) := by decide +kernel
theorem dX4_step_210 : decode cX4_step 210 = .ok (.new 31, 3) := by decide +kernel
theorem dX4_step_213 : decode cX4_step 213 = .ok (.dup, 1) := by decide +kernel
theorem dX4_step_214 : decode cX4_step 214 = .ok (.aload_n 0, 1) := by decide +kernel
theorem dX4_step_215 : decode cX4_step 215 = .ok (.getfield 22, 3) := by decide +kernel
theorem dX4_step_218 : decode cX4_step 218 = .ok (.getfield 33, 3) := by decide +kernel
theorem dX4_step_221 : decode cX4_step 221 = .ok (.aload_n 0, 1) := by decide +kernel
theorem dX4_step_222 : decode cX4_step 222 = .ok (.getfield 28, 3) := by decide +kernel
theorem dX4_step_225 : decode cX4_step 225 = .ok (.invokespecial 36, 3) := by decide +kernel
theorem dX4_step_228 : decode cX4_step 228 = .ok (.putfield 28, 3) := by decide +kernel
theorem dX4_step_231 : decode cX4_step 231 = .ok (.aload_n 0, 1) := by decide +kernel
theorem dX4_step_232 : decode cX4_step 232 = .ok (.aload_n 0, 1) := by decide +kernel
theorem dX4_step_233 : decode cX4_step 233 = .ok (.getfield 22, 3) := by decide +kernel
theorem dX4_step_236 : decode cX4_step 236 = .ok (.getfield 39, 3) := by decide +kernel
theorem dX4_step_239 : decode cX4_step 239 = .ok (.putfield 22, 3) := by decide +kernel
theorem dX4_step_242 : decode cX4_step 242 = .ok (.aload_n 0, 1) := by decide +kernel
theorem dX4_step_243 : decode cX4_step 243 = .ok (.dup, 1) := by decide +kernel
theorem dX4_step_244 : decode cX4_step 244 = .ok (.getfield 15, 3) := by decide +kernel
theorem dX4_step_247 : decode cX4_step 247 = .ok (.iconst 1, 1) := by decide +kernel
theorem dX4_step_248 : decode cX4_step 248 = .ok (.isub, 1) := by decide +kernel
theorem dX4_step_249 : decode cX4_step 249 = .ok (.putfield 15, 3) := by decide +kernel
theorem dX4_step_252 : decode cX4_step 252 = .ok (.iconst 1, 1) := by decide +kernel
theorem dX4_step_253 : decode cX4_step 253 = .ok (.ireturn, 1) := by decide +kernel
theorem dX4_step_254 : decode cX4_step 254 = .ok (.iconst 0, 1) := by decide +kernel
theorem dX4_step_255 : decode cX4_step 255 = .ok (.ireturn, 1) := by decide +kernel
theorem dX4_loseFirst_0 : decode cX4_loseFirst 0 = .ok (.aload_n 0, 1) := by decide +kernel
theorem dX4_loseFirst_1 : decode cX4_loseFirst 1 = .ok (.getfield 9, 3) := by decide +kernel
theorem dX4_loseFirst_4 : decode cX4_loseFirst 4 = .ok (.iconst 1, 1) := by decide +kernel
theorem dX4_loseFirst_5 : decode cX4_loseFirst 5 = .ok (.if_icmp .ne 16, 3) := by decide +kernel
theorem dX4_loseFirst_8 : decode cX4_loseFirst 8 = .ok (.aload_n 0, 1) := by decide +kernel
theorem dX4_loseFirst_9 : decode cX4_loseFirst 9 = .ok (.dup, 1) := by decide +kernel
theorem dX4_loseFirst_10 : decode cX4_loseFirst 10 = .ok (.getfield 15, 3) := by decide +kernel
theorem dX4_loseFirst_13 : decode cX4_loseFirst 13 = .ok (.iconst 1, 1) := by decide +kernel
theorem dX4_loseFirst_14 : decode cX4_loseFirst 14 = .ok (.isub, 1) := by decide +kernel
theorem dX4_loseFirst_15 : decode cX4_loseFirst 15 = .ok (.putfield 15, 3) := by decide +kernel
theorem dX4_loseFirst_18 : decode cX4_loseFirst 18 = .ok (.goto 61, 3) := by decide +kernel
theorem dX4_loseFirst_21 : decode cX4_loseFirst 21 = .ok (.aload_n 0, 1) := by decide +kernel
theorem dX4_loseFirst_22 : decode cX4_loseFirst 22 = .ok (.getfield 9, 3) := by decide +kernel
theorem dX4_loseFirst_25 : decode cX4_loseFirst 25 = .ok (.iconst 2, 1) := by decide +kernel
theorem dX4_loseFirst_26 : decode cX4_loseFirst 26 = .ok (.if_icmp .ne 23, 3) := by decide +kernel
theorem dX4_loseFirst_29 : decode cX4_loseFirst 29 = .ok (.aload_n 0, 1) := by decide +kernel
theorem dX4_loseFirst_30 : decode cX4_loseFirst 30 = .ok (.getfield 15, 3) := by decide +kernel
theorem dX4_loseFirst_33 : decode cX4_loseFirst 33 = .ok (.ifCond .le 16, 3) := by decide +kernel
theorem dX4_loseFirst_36 : decode cX4_loseFirst 36 = .ok (.aload_n 0, 1) := by decide +kernel
theorem dX4_loseFirst_37 : decode cX4_loseFirst 37 = .ok (.dup, 1) := by decide +kernel
theorem dX4_loseFirst_38 : decode cX4_loseFirst 38 = .ok (.getfield 15, 3) := by decide +kernel
theorem dX4_loseFirst_41 : decode cX4_loseFirst 41 = .ok (.iconst 1, 1) := by decide +kernel
theorem dX4_loseFirst_42 : decode cX4_loseFirst 42 = .ok (.isub, 1) := by decide +kernel
theorem dX4_loseFirst_43 : decode cX4_loseFirst 43 = .ok (.putfield 15, 3) := by decide +kernel
theorem dX4_loseFirst_46 : decode cX4_loseFirst 46 = .ok (.goto 33, 3) := by decide +kernel
theorem dX4_loseFirst_49 : decode cX4_loseFirst 49 = .ok (.aload_n 0, 1) := by decide +kernel
theorem dX4_loseFirst_50 : decode cX4_loseFirst 50 = .ok (.getfield 9, 3) := by decide +kernel
theorem dX4_loseFirst_53 : decode cX4_loseFirst 53 = .ok (.iconst 2, 1) := by decide +kernel
theorem dX4_loseFirst_54 : decode cX4_loseFirst 54 = .ok (.if_icmp .ne 25, 3) := by decide +kernel
theorem dX4_loseFirst_57 : decode cX4_loseFirst 57 = .ok (.aload_n 0, 1) := by decide +kernel
theorem dX4_loseFirst_58 : decode cX4_loseFirst 58 = .ok (.getfield 15, 3) := by decide +kernel
theorem dX4_loseFirst_61 : decode cX4_loseFirst 61 = .ok (.ifCond .ne 18, 3) := by decide +kernel
theorem dX4_loseFirst_64 : decode cX4_loseFirst 64 = .ok (.aload_n 0, 1) := by decide +kernel
theorem dX4_loseFirst_65 : decode cX4_loseFirst 65 = .ok (.aload_n 0, 1) := by decide +kernel
theorem dX4_loseFirst_66 : decode cX4_loseFirst 66 = .ok (.getfield 28, 3) := by decide +kernel
theorem dX4_loseFirst_69 : decode cX4_loseFirst 69 = .ok (.invokestatic 45, 3) := by decide +kernel
theorem dX4_loseFirst_72 : decode cX4_loseFirst 72 = .ok (.putfield 28, 3) := by decide +kernel
theorem dX4_loseFirst_75 : decode cX4_loseFirst 75 = .ok (.aload_n 0, 1) := by decide +kernel
theorem dX4_loseFirst_76 : decode cX4_loseFirst 76 = .ok (.invokevirtual 42, 3) := by decide +kernel
theorem dX4_loseFirst_79 : decode cX4_loseFirst 79 = .ok (.return_, 1) := by decide +kernel
theorem dX4_finish_0 : decode cX4_finish 0 = .ok (.aload_n 0, 1) := by decide +kernel
theorem dX4_finish_1 : decode cX4_finish 1 = .ok (.iconst 3, 1) := by decide +kernel
theorem dX4_finish_2 : decode cX4_finish 2 = .ok (.putfield 9, 3) := by decide +kernel
theorem dX4_finish_5 : decode cX4_finish 5 = .ok (.aload_n 0, 1) := by decide +kernel
theorem dX4_finish_6 : decode cX4_finish 6 = .ok (.aconst_null, 1) := by decide +kernel
theorem dX4_finish_7 : decode cX4_finish 7 = .ok (.putfield 22, 3) := by decide +kernel
theorem dX4_finish_10 : decode cX4_finish 10 = .ok (.return_, 1) := by decide +kernel
theorem dX4_endWithList_0 : decode cX4_endWithList 0 = .ok (.aload_n 0, 1) := by decide +kernel
theorem dX4_endWithList_1 : decode cX4_endWithList 1 = .ok (.getfield 28, 3) := by decide +kernel
theorem dX4_endWithList_4 : decode cX4_endWithList 4 = .ok (.astore_n 1, 1) := by decide +kernel
theorem dX4_endWithList_5 : decode cX4_endWithList 5 = .ok (.aload_n 0, 1) := by decide +kernel
theorem dX4_endWithList_6 : decode cX4_endWithList 6 = .ok (.iconst 0, 1) := by decide +kernel
theorem dX4_endWithList_7 : decode cX4_endWithList 7 = .ok (.putfield 9, 3) := by decide +kernel
theorem dX4_endWithList_10 : decode cX4_endWithList 10 = .ok (.aload_n 0, 1) := by decide +kernel
theorem dX4_endWithList_11 : decode cX4_endWithList 11 = .ok (.aconst_null, 1) := by decide +kernel
theorem dX4_endWithList_12 : decode cX4_endWithList 12 = .ok (.putfield 28, 3) := by decide +kernel
theorem dX4_endWithList_15 : decode cX4_endWithList 15 = .ok (.aload_n 1, 1) := by decide +kernel
theorem dX4_endWithList_16 : decode cX4_endWithList 16 = .ok (.areturn, 1) := by decide +kernel
theorem dX5_init_0 : decode cX5_init 0 = .ok (.aload_n 0, 1) := by decide +kernel
theorem dX5_init_1 : decode cX5_init 1 = .ok (.invokespecial 3, 3) := by decide +kernel
theorem dX5_init_4 : decode cX5_init 4 = .ok (.aload_n 0, 1) := by decide +kernel
theorem dX5_init_5 : decode cX5_init 5 = .ok (.new 9, 3) := by decide +kernel
theorem dX5_init_8 : decode cX5_init 8 = .ok (.dup, 1) := by decide +kernel
theorem dX5_init_9 : decode cX5_init 9 = .ok (.invokespecial 11, 3) := by decide +kernel
theorem dX5_init_12 : decode cX5_init 12 = .ok (.putfield 12, 3) := by decide +kernel
theorem dX5_init_15 : decode cX5_init 15 = .ok (.aload_n 0, 1) := by decide +kernel
theorem dX5_init_16 : decode cX5_init 16 = .ok (.aconst_null, 1) := by decide +kernel
theorem dX5_init_17 : decode cX5_init 17 = .ok (.putfield 18, 3) := by decide +kernel
theorem dX5_init_20 : decode cX5_init 20 = .ok (.aload_n 0, 1) := by decide +kernel
theorem dX5_init_21 : decode cX5_init 21 = .ok (.aconst_null, 1) := by decide +kernel
theorem dX5_init_22 : decode cX5_init 22 = .ok (.putfield 22, 3) := by decide +kernel
theorem dX5_init_25 : decode cX5_init 25 = .ok (.aload_n 0, 1) := by decide +kernel
theorem dX5_init_26 : decode cX5_init 26 = .ok (.iconst 0, 1) := by decide +kernel
theorem dX5_init_27 : decode cX5_init 27 = .ok (.putfield 25, 3) := by decide +kernel
theorem dX5_init_30 : decode cX5_init 30 = .ok (.aload_n 0, 1) := by decide +kernel
theorem dX5_init_31 : decode cX5_init 31 = .ok (.iconst 0, 1) := by decide +kernel
theorem dX5_init_32 : decode cX5_init 32 = .ok (.putfield 29, 3) := by decide +kernel
theorem dX5_init_35 : decode cX5_init 35 = .ok (.aload_n 0, 1) := by decide +kernel
theorem dX5_init_36 : decode cX5_init 36 = .ok (.iconst 0, 1) := by decide +kernel
theorem dX5_init_37 : decode cX5_init 37 = .ok (.putfield 32, 3) := by decide +kernel
theorem dX5_init_40 : decode cX5_init 40 = .ok (.aload_n 0, 1) := by decide +kernel
theorem dX5_init_41 : decode cX5_init 41 = .ok (.aload_n 1, 1) := by decide +kernel
theorem dX5_init_42 : decode cX5_init 42 = .ok (.putfield 35, 3) := by decide +kernel
theorem dX5_init_45 : decode cX5_init 45 = .ok (.aload_n 0, 1) := by decide +kernel
theorem dX5_init_46 : decode cX5_init 46 = .ok (.iload_n 2, 1) := by decide +kernel
theorem dX5_init_47 : decode cX5_init 47 = .ok (.putfield 39, 3) := by decide +kernel
theorem dX5_init_50 : decode cX5_init 50 = .ok (.aload_n 1, 1) := by decide +kernel
theorem dX5_init_51 : decode cX5_init 51 = .ok (.ifnonnull 9, 3) := by decide +kernel
theorem dX5_init_54 : decode cX5_init 54 = .ok (.aload_n 0, 1) := by decide +kernel
theorem dX5_init_55 : decode cX5_init 55 = .ok (.iconst 0, 1) := by decide +kernel
theorem dX5_init_56 : decode cX5_init 56 = .ok (.putfield 42, 3) := by decide +kernel
theorem dX5_init_59 : decode cX5_init 59 = .ok (.return_, 1) := by decide +kernel
theorem dX5_init_60 : decode cX5_init 60 = .ok (.aload_n 0, 1) := by decide +kernel
theorem dX5_init_61 : decode cX5_init 61 = .ok (.aload_n 1, 1) := by decide +kernel
theorem dX5_init_62 : decode cX5_init 62 = .ok (.getfield 42, 3) := by decide +kernel
theorem dX5_init_65 : decode cX5_init 65 = .ok (.iconst 1, 1) := by decide +kernel
theorem dX5_init_66 : decode cX5_init 66 = .ok (.iadd, 1) := by decide +kernel
theorem dX5_init_67 : decode cX5_init 67 = .ok (.putfield 42, 3) := by decide +kernel
theorem dX5_init_70 : decode cX5_init 70 = .ok (.aload_n 0, 1) := by decide +kernel
theorem dX5_init_71 : decode cX5_init 71 = .ok (.getfield 12, 3) := by decide +kernel
theorem dX5_init_74 : decode cX5_init 74 = .ok (.aload_n 1, 1) := by decide +kernel
theorem dX5_init_75 : decode cX5_init 75 = .ok (.getfield 12, 3) := by decide +kernel
theorem dX5_init_78 : decode cX5_init 78 = .ok (.invokevirtual 45, 3) := by decide +kernel
theorem dX5_init_81 : decode cX5_init 81 = .ok (.aload_n 0, 1) := by decide +kernel
theorem dX5_init_82 : decode cX5_init 82 = .ok (.aload_n 1, 1) := by decide +kernel
theorem dX5_init_83 : decode cX5_init 83 = .ok (.getfield 18, 3) := by decide +kernel
theorem dX5_init_86 : decode cX5_init 86 = .ok (.putfield 18, 3) := by decide +kernel
theorem dX5_init_89 : decode cX5_init 89 = .ok (.aload_n 0, 1) := by decide +kernel
theorem dX5_init_90 : decode cX5_init 90 = .ok (.aload_n 1, 1) := by decide +kernel
theorem dX5_init_91 : decode cX5_init 91 = .ok (.getfield 22, 3) := by decide +kernel
theorem dX5_init_94 : decode cX5_init 94 = .ok (.putfield 22, 3) := by decide +kernel
theorem dX5_init_97 : decode cX5_init 97 = .ok (.aload_n 0, 1) := by decide +kernel
theorem dX5_init_98 : decode cX5_init 98 = .ok (.aload_n 1, 1) := by decide +kernel
theorem dX5_init_99 : decode cX5_init 99 = .ok (.getfield 25, 3) := by decide +kernel
theorem dX5_init_102 : decode cX5_init 102 = .ok (.putfield 25, 3) := by decide +kernel
theorem dX5_init_105 : decode cX5_init 105 = .ok (.aload_n 0, 1) := by decide +kernel
theorem dX5_init_106 : decode cX5_init 106 = .ok (.aload_n 1, 1) := by decide +kernel
theorem dX5_init_107 : decode cX5_init 107 = .ok (.getfield 29, 3) := by decide +kernel
theorem dX5_init_110 : decode cX5_init 110 = .ok (.putfield 29, 3) := by decide +kernel
theorem dX5_init_113 : decode cX5_init 113 = .ok (.return_, 1) := by decide +kernel
theorem dX5_length_0 : decode cX5_length 0 = .ok (.aload_n 0, 1) := by decide +kernel
theorem dX5_length_1 : decode cX5_length 1 = .ok (.getfield 25, 3) := by decide +kernel
theorem dX5_length_4 : decode cX5_length 4 = .ok (.aload_n 0, 1) := by decide +kernel
theorem dX5_length_5 : decode cX5_length 5 = .ok (.getfield 29, 3) := by decide +kernel
theorem dX5_length_8 : decode cX5_length 8 = .ok (.iadd, 1) := by decide +kernel
theorem dX5_length_9 : decode cX5_length 9 = .ok (.ireturn, 1) := by decide +kernel
theorem dX5_putLast_0 : decode cX5_putLast 0 = .ok (.aload_n 0, 1) := by decide +kernel
theorem dX5_putLast_1 : decode cX5_putLast 1 = .ok (.new 49, 3) := by decide +kernel
theorem dX5_putLast_4 : decode cX5_putLast 4 = .ok (.dup, 1) := by decide +kernel
theorem dX5_putLast_5 : decode cX5_putLast 5 = .ok (.iload_n 1, 1) := by decide +kernel
theorem dX5_putLast_6 : decode cX5_putLast 6 = .ok (.aload_n 0, 1) := by decide +kernel
theorem dX5_putLast_7 : decode cX5_putLast 7 = .ok (.getfield 22, 3) := by decide +kernel
theorem dX5_putLast_10 : decode cX5_putLast 10 = .ok (.invokespecial 51, 3) := by decide +kernel
theorem dX5_putLast_13 : decode cX5_putLast 13 = .ok (.putfield 22, 3) := by decide +kernel
theorem dX5_putLast_16 : decode cX5_putLast 16 = .ok (.aload_n 0, 1) := by decide +kernel
theorem dX5_putLast_17 : decode cX5_putLast 17 = .ok (.dup, 1) := by decide +kernel
theorem dX5_putLast_18 : decode cX5_putLast 18 = .ok (.getfield 29, 3) := by decide +kernel
theorem dX5_putLast_21 : decode cX5_putLast 21 = .ok (.iconst 1, 1) := by decide +kernel
theorem dX5_putLast_22 : decode cX5_putLast 22 = .ok (.iadd, 1) := by decide +kernel
theorem dX5_putLast_23 : decode cX5_putLast 23 = .ok (.putfield 29, 3) := by decide +kernel
theorem dX5_putLast_26 : decode cX5_putLast 26 = .ok (.return_, 1) := by decide +kernel
theorem dX5_takeFirst_0 : decode cX5_takeFirst 0 = .ok (.aload_n 0, 1) := by decide +kernel
theorem dX5_takeFirst_1 : decode cX5_takeFirst 1 = .ok (.aload_n 0, 1) := by decide +kernel
theorem dX5_takeFirst_2 : decode cX5_takeFirst 2 = .ok (.getfield 18, 3) := by decide +kernel
theorem dX5_takeFirst_5 : decode cX5_takeFirst 5 = .ok (.invokestatic 54, 3) := by decide +kernel
theorem dX5_takeFirst_8 : decode cX5_takeFirst 8 = .ok (.putfield 18, 3) := by decide +kernel
theorem dX5_takeFirst_11 : decode cX5_takeFirst 11 = .ok (.aload_n 0, 1) := by decide +kernel
theorem dX5_takeFirst_12 : decode cX5_takeFirst 12 = .ok (.dup, 1) := by decide +kernel
theorem dX5_takeFirst_13 : decode cX5_takeFirst 13 = .ok (.getfield 25, 3) := by decide +kernel
theorem dX5_takeFirst_16 : decode cX5_takeFirst 16 = .ok (.iconst 1, 1) := by decide +kernel
theorem dX5_takeFirst_17 : decode cX5_takeFirst 17 = .ok (.isub, 1) := by decide +kernel
theorem dX5_takeFirst_18 : decode cX5_takeFirst 18 = .ok (.putfield 25, 3) := by decide +kernel
theorem dX5_takeFirst_21 : decode cX5_takeFirst 21 = .ok (.aload_n 0, 1) := by decide +kernel
theorem dX5_takeFirst_22 : decode cX5_takeFirst 22 = .ok (.getfield 12, 3) := by decide +kernel
theorem dX5_takeFirst_25 : decode cX5_takeFirst 25 = .ok (.invokevirtual 58, 3) := by decide +kernel
theorem dX5_takeFirst_28 : decode cX5_takeFirst 28 = .ok (.return_, 1) := by decide +kernel
theorem dX5_settle_0 : decode cX5_settle 0 = .ok (.aload_n 0, 1) := by decide +kernel
theorem dX5_settle_1 : decode cX5_settle 1 = .ok (.getfield 29, 3) := by decide +kernel
theorem dX5_settle_4 : decode cX5_settle 4 = .ok (.aload_n 0, 1) := by decide +kernel
theorem dX5_settle_5 : decode cX5_settle 5 = .ok (.getfield 25, 3) := by decide +kernel
theorem dX5_settle_8 : decode cX5_settle 8 = .ok (.if_icmp .le 41, 3) := by decide +kernel
theorem dX5_settle_11 : decode cX5_settle 11 = .ok (.aload_n 0, 1) := by decide +kernel
theorem dX5_settle_12 : decode cX5_settle 12 = .ok (.getfield 12, 3) := by decide +kernel
theorem dX5_settle_15 : decode cX5_settle 15 = .ok (.aload_n 0, 1) := by decide +kernel
theorem dX5_settle_16 : decode cX5_settle 16 = .ok (.getfield 18, 3) := by decide +kernel
theorem dX5_settle_19 : decode cX5_settle 19 = .ok (.aload_n 0, 1) := by decide +kernel
theorem dX5_settle_20 : decode cX5_settle 20 = .ok (.getfield 22, 3) := by decide +kernel
theorem dX5_settle_23 : decode cX5_settle 23 = .ok (.invokevirtual 61, 3) := by decide +kernel
theorem dX5_settle_26 : decode cX5_settle 26 = .ok (.aload_n 0, 1) := by decide +kernel
theorem dX5_settle_27 : decode cX5_settle 27 = .ok (.dup, 1) := by decide +kernel
theorem dX5_settle_28 : decode cX5_settle 28 = .ok (.getfield 25, 3) := by decide +kernel
theorem dX5_settle_31 : decode cX5_settle 31 = .ok (.aload_n 0, 1) := by decide +kernel
theorem dX5_settle_32 : decode cX5_settle 32 = .ok (.getfield 29, 3) := by decide +kernel
theorem dX5_settle_35 : decode cX5_settle 35 = .ok (.iadd, 1) := by decide +kernel
theorem dX5_settle_36 : decode cX5_settle 36 = .ok (.putfield 25, 3) := by decide +kernel
theorem dX5_settle_39 : decode cX5_settle 39 = .ok (.aload_n 0, 1) := by decide +kernel
theorem dX5_settle_40 : decode cX5_settle 40 = .ok (.iconst 0, 1) := by decide +kernel
theorem dX5_settle_41 : decode cX5_settle 41 = .ok (.putfield 29, 3) := by decide +kernel
theorem dX5_settle_44 : decode cX5_settle 44 = .ok (.aload_n 0, 1) := by decide +kernel
theorem dX5_settle_45 : decode cX5_settle 45 = .ok (.aconst_null, 1) := by decide +kernel
theorem dX5_settle_46 : decode cX5_settle 46 = .ok (.putfield 22, 3) := by decide +kernel
theorem dX5_settle_49 : decode cX5_settle 49 = .ok (.aload_n 0, 1) := by decide +kernel
theorem dX5_settle_50 : decode cX5_settle 50 = .ok (.iconst 0, 1) := by decide +kernel
theorem dX5_settle_51 : decode cX5_settle 51 = .ok (.putfield 32, 3) := by decide +kernel
theorem dX5_settle_54 : decode cX5_settle 54 = .ok (.aload_n 0, 1) := by decide +kernel
theorem dX5_settle_55 : decode cX5_settle 55 = .ok (.getfield 32, 3) := by decide +kernel
theorem dX5_settle_58 : decode cX5_settle 58 = .ok (.iload_n 1, 1) := by decide +kernel
theorem dX5_settle_59 : decode cX5_settle 59 = .ok (.if_icmp .ge 26, 3) := by decide +kernel
theorem dX5_settle_62 : decode cX5_settle 62 = .ok (.aload_n 0, 1) := by decide +kernel
theorem dX5_settle_63 : decode cX5_settle 63 = .ok (.getfield 12, 3) := by decide +kernel
theorem dX5_settle_66 : decode cX5_settle 66 = .ok (.invokevirtual 65, 3) := by decide +kernel
theorem dX5_settle_69 : decode cX5_settle 69 = .ok (.ifCond .eq 16, 3) := by decide +kernel
theorem dX5_settle_72 : decode cX5_settle 72 = .ok (.aload_n 0, 1) := by decide +kernel
theorem dX5_settle_73 : decode cX5_settle 73 = .ok (.dup, 1) := by decide +kernel
theorem dX5_settle_74 : decode cX5_settle 74 = .ok (.getfield 32, 3) := by decide +kernel
theorem dX5_settle_77 : decode cX5_settle 77 = .ok (.iconst 1, 1) := by decide +kernel
theorem dX5_settle_78 : decode cX5_settle 78 = .ok (.iadd, 1) := by decide +kernel
theorem dX5_settle_79 : decode cX5_settle 79 = .ok (.putfield 32, 3) := by decide +kernel
theorem dX5_settle_82 : decode cX5_settle 82 = .ok (.goto (-28), 3) := by decide +kernel
theorem dX5_settle_85 : decode cX5_settle 85 = .ok (.aload_n 0, 1) := by decide +kernel
theorem dX5_settle_86 : decode cX5_settle 86 = .ok (.getfield 12, 3) := by decide +kernel
theorem dX5_settle_89 : decode cX5_settle 89 = .ok (.getfield 69, 3) := by decide +kernel
theorem dX5_settle_92 : decode cX5_settle 92 = .ok (.iconst 3, 1) := by decide +kernel
theorem dX5_settle_93 : decode cX5_settle 93 = .ok (.if_icmp .ne 14, 3) := by decide +kernel
theorem dX5_settle_96 : decode cX5_settle 96 = .ok (.aload_n 0, 1) := by decide +kernel
theorem dX5_settle_97 : decode cX5_settle 97 = .ok (.aload_n 0, 1) := by decide +kernel
theorem dX5_settle_98 : decode cX5_settle 98 = .ok (.getfield 12, 3) := by decide +kernel
theorem dX5_settle_101 : decode cX5_settle 101 = .ok (.invokevirtual 72, 3) := by decide +kernel
theorem dX5_settle_104 : decode cX5_settle 104 = .ok (.putfield 18, 3) := by decide +kernel
theorem dX5_settle_107 : decode cX5_settle 107 = .ok (.return_, 1) := by decide +kernel
theorem dX5_listOf_0 : decode cX5_listOf 0 = .ok (.iload_n 1, 1) := by decide +kernel
theorem dX5_listOf_1 : decode cX5_listOf 1 = .ok (.tableswitch 81 1 6 #[39, 44, 49, 57, 65, 73], 39) := by decide +kernel
theorem dX5_listOf_40 : decode cX5_listOf 40 = .ok (.aload_n 0, 1) := by decide +kernel
theorem dX5_listOf_41 : decode cX5_listOf 41 = .ok (.getfield 18, 3) := by decide +kernel
theorem dX5_listOf_44 : decode cX5_listOf 44 = .ok (.areturn, 1) := by decide +kernel
theorem dX5_listOf_45 : decode cX5_listOf 45 = .ok (.aload_n 0, 1) := by decide +kernel
theorem dX5_listOf_46 : decode cX5_listOf 46 = .ok (.getfield 22, 3) := by decide +kernel
theorem dX5_listOf_49 : decode cX5_listOf 49 = .ok (.areturn, 1) := by decide +kernel
theorem dX5_listOf_50 : decode cX5_listOf 50 = .ok (.aload_n 0, 1) := by decide +kernel
theorem dX5_listOf_51 : decode cX5_listOf 51 = .ok (.getfield 12, 3) := by decide +kernel
theorem dX5_listOf_54 : decode cX5_listOf 54 = .ok (.getfield 76, 3) := by decide +kernel
theorem dX5_listOf_57 : decode cX5_listOf 57 = .ok (.areturn, 1) := by decide +kernel
theorem dX5_listOf_58 : decode cX5_listOf 58 = .ok (.aload_n 0, 1) := by decide +kernel
theorem dX5_listOf_59 : decode cX5_listOf 59 = .ok (.getfield 12, 3) := by decide +kernel
theorem dX5_listOf_62 : decode cX5_listOf 62 = .ok (.getfield 79, 3) := by decide +kernel
theorem dX5_listOf_65 : decode cX5_listOf 65 = .ok (.areturn, 1) := by decide +kernel
theorem dX5_listOf_66 : decode cX5_listOf 66 = .ok (.aload_n 0, 1) := by decide +kernel
theorem dX5_listOf_67 : decode cX5_listOf 67 = .ok (.getfield 12, 3) := by decide +kernel
theorem dX5_listOf_70 : decode cX5_listOf 70 = .ok (.getfield 82, 3) := by decide +kernel
theorem dX5_listOf_73 : decode cX5_listOf 73 = .ok (.areturn, 1) := by decide +kernel
theorem dX5_listOf_74 : decode cX5_listOf 74 = .ok (.aload_n 0, 1) := by decide +kernel
theorem dX5_listOf_75 : decode cX5_listOf 75 = .ok (.getfield 12, 3) := by decide +kernel
theorem dX5_listOf_78 : decode cX5_listOf 78 = .ok (.getfield 85, 3) := by decide +kernel
theorem dX5_listOf_81 : decode cX5_listOf 81 = .ok (.areturn, 1) := by decide +kernel
theorem dX5_listOf_82 : decode cX5_listOf 82 = .ok (.aconst_null, 1) := by decide +kernel
theorem dX5_listOf_83 : decode cX5_listOf 83 = .ok (.areturn, 1) := by decide +kernel
theorem dX5_valuesInto_0 : decode cX5_valuesInto 0 = .ok (.aload_n 0, 1) := by decide +kernel
theorem dX5_valuesInto_1 : decode cX5_valuesInto 1 = .ok (.getfield 12, 3) := by decide +kernel
theorem dX5_valuesInto_4 : decode cX5_valuesInto 4 = .ok (.getfield 69, 3) := by decide +kernel
theorem dX5_valuesInto_7 : decode cX5_valuesInto 7 = .ok (.iconst 2, 1) := by decide +kernel
theorem dX5_valuesInto_8 : decode cX5_valuesInto 8 = .ok (.if_icmp .ne 13, 3) := by decide +kernel
theorem dX5_valuesInto_11 : decode cX5_valuesInto 11 = .ok (.aload_n 0, 1) := by decide +kernel
theorem dX5_valuesInto_12 : decode cX5_valuesInto 12 = .ok (.getfield 12, 3) := by decide +kernel
theorem dX5_valuesInto_15 : decode cX5_valuesInto 15 = .ok (.getfield 88, 3) := by decide +kernel
theorem dX5_valuesInto_18 : decode cX5_valuesInto 18 = .ok (.goto 5, 3) := by decide +kernel
theorem dX5_valuesInto_21 : decode cX5_valuesInto 21 = .ok (.aload_n 1, 1) := by decide +kernel
theorem dX5_valuesInto_22 : decode cX5_valuesInto 22 = .ok (.arraylength, 1) := by decide +kernel
theorem dX5_valuesInto_23 : decode cX5_valuesInto 23 = .ok (.istore_n 2, 1) := by decide +kernel
theorem dX5_valuesInto_24 : decode cX5_valuesInto 24 = .ok (.aload_n 0, 1) := by decide +kernel
theorem dX5_valuesInto_25 : decode cX5_valuesInto 25 = .ok (.getfield 18, 3) := by decide +kernel
theorem dX5_valuesInto_28 : decode cX5_valuesInto 28 = .ok (.iload_n 2, 1) := by decide +kernel
theorem dX5_valuesInto_29 : decode cX5_valuesInto 29 = .ok (.aload_n 1, 1) := by decide +kernel
theorem dX5_valuesInto_30 : decode cX5_valuesInto 30 = .ok (.iconst 0, 1) := by decide +kernel
theorem dX5_valuesInto_31 : decode cX5_valuesInto 31 = .ok (.invokestatic 91, 3) := by decide +kernel
theorem dX5_valuesInto_34 : decode cX5_valuesInto 34 = .ok (.istore_n 3, 1) := by decide +kernel
theorem dX5_valuesInto_35 : decode cX5_valuesInto 35 = .ok (.aload_n 0, 1) := by decide +kernel
theorem dX5_valuesInto_36 : decode cX5_valuesInto 36 = .ok (.getfield 12, 3) := by decide +kernel
theorem dX5_valuesInto_39 : decode cX5_valuesInto 39 = .ok (.getfield 82, 3) := by decide +kernel
theorem dX5_valuesInto_42 : decode cX5_valuesInto 42 = .ok (.aload_n 1, 1) := by decide +kernel
theorem dX5_valuesInto_43 : decode cX5_valuesInto 43 = .ok (.iload_n 3, 1) := by decide +kernel
theorem dX5_valuesInto_44 : decode cX5_valuesInto 44 = .ok (.invokestatic 95, 3) := by decide +kernel
theorem dX5_valuesInto_47 : decode cX5_valuesInto 47 = .ok (.istore_n 3, 1) := by decide +kernel
theorem dX5_valuesInto_48 : decode cX5_valuesInto 48 = .ok (.aload_n 0, 1) := by decide +kernel
theorem dX5_valuesInto_49 : decode cX5_valuesInto 49 = .ok (.getfield 12, 3) := by decide +kernel
theorem dX5_valuesInto_52 : decode cX5_valuesInto 52 = .ok (.getfield 85, 3) := by decide +kernel
theorem dX5_valuesInto_55 : decode cX5_valuesInto 55 = .ok (.aload_n 1, 1) := by decide +kernel
theorem dX5_valuesInto_56 : decode cX5_valuesInto 56 = .ok (.arraylength, 1) := by decide +kernel
theorem dX5_valuesInto_57 : decode cX5_valuesInto 57 = .ok (.aload_n 1, 1) := by decide +kernel
theorem dX5_valuesInto_58 : decode cX5_valuesInto 58 = .ok (.iload_n 3, 1) := by decide +kernel
theorem dX5_valuesInto_59 : decode cX5_valuesInto 59 = .ok (.invokestatic 91, 3) := by decide +kernel
theorem dX5_valuesInto_62 : decode cX5_valuesInto 62 = .ok (.istore_n 3, 1) := by decide +kernel
theorem dX5_valuesInto_63 : decode cX5_valuesInto 63 = .ok (.aload_n 0, 1) := by decide +kernel
theorem dX5_valuesInto_64 : decode cX5_valuesInto 64 = .ok (.getfield 22, 3) := by decide +kernel
theorem dX5_valuesInto_67 : decode cX5_valuesInto 67 = .ok (.aload_n 1, 1) := by decide +kernel
theorem dX5_valuesInto_68 : decode cX5_valuesInto 68 = .ok (.iload_n 3, 1) := by decide +kernel
theorem dX5_valuesInto_69 : decode cX5_valuesInto 69 = .ok (.invokestatic 95, 3) := by decide +kernel
theorem dX5_valuesInto_72 : decode cX5_valuesInto 72 = .ok (.ireturn, 1) := by decide +kernel
theorem dX5_wayInto_0 : decode cX5_wayInto 0 = .ok (.aload_n 0, 1) := by decide +kernel
theorem dX5_wayInto_1 : decode cX5_wayInto 1 = .ok (.astore_n 2, 1) := by decide +kernel
theorem dX5_wayInto_2 : decode cX5_wayInto 2 = .ok (.aload_n 2, 1) := by decide +kernel
theorem dX5_wayInto_3 : decode cX5_wayInto 3 = .ok (.getfield 35, 3) := by decide +kernel
theorem dX5_wayInto_6 : decode cX5_wayInto 6 = .ok (.ifnull 35, 3) := by decide +kernel
theorem dX5_wayInto_9 : decode cX5_wayInto 9 = .ok (.aload_n 2, 1) := by decide +kernel
theorem dX5_wayInto_10 : decode cX5_wayInto 10 = .ok (.getfield 42, 3) := by decide +kernel
theorem dX5_wayInto_13 : decode cX5_wayInto 13 = .ok (.iconst 1, 1) := by decide +kernel
theorem dX5_wayInto_14 : decode cX5_wayInto 14 = .ok (.isub, 1) := by decide +kernel
theorem dX5_wayInto_15 : decode cX5_wayInto 15 = .ok (.istore_n 3, 1) := by decide +kernel
theorem dX5_wayInto_16 : decode cX5_wayInto 16 = .ok (.iload_n 3, 1) := by decide +kernel
theorem dX5_wayInto_17 : decode cX5_wayInto 17 = .ok (.ifCond .lt 16, 3) := by decide +kernel
theorem dX5_wayInto_20 : decode cX5_wayInto 20 = .ok (.iload_n 3, 1) := by decide +kernel
theorem dX5_wayInto_21 : decode cX5_wayInto 21 = .ok (.aload_n 1, 1) := by decide +kernel
theorem dX5_wayInto_22 : decode cX5_wayInto 22 = .ok (.arraylength, 1) := by decide +kernel
theorem dX5_wayInto_23 : decode cX5_wayInto 23 = .ok (.if_icmp .ge 10, 3) := by decide +kernel
theorem dX5_wayInto_26 : decode cX5_wayInto 26 = .ok (.aload_n 1, 1) := by decide +kernel
theorem dX5_wayInto_27 : decode cX5_wayInto 27 = .ok (.iload_n 3, 1) := by decide +kernel
theorem dX5_wayInto_28 : decode cX5_wayInto 28 = .ok (.aload_n 2, 1) := by decide +kernel
theorem dX5_wayInto_29 : decode cX5_wayInto 29 = .ok (.getfield 39, 3) := by decide +kernel
theorem dX5_wayInto_32 : decode cX5_wayInto 32 = .ok (.iastore, 1) := by decide +kernel
theorem dX5_wayInto_33 : decode cX5_wayInto 33 = .ok (.aload_n 2, 1) := by decide +kernel
theorem dX5_wayInto_34 : decode cX5_wayInto 34 = .ok (.getfield 35, 3) := by decide +kernel
theorem dX5_wayInto_37 : decode cX5_wayInto 37 = .ok (.astore_n 2, 1) := by decide +kernel
theorem dX5_wayInto_38 : decode cX5_wayInto 38 = .ok (.goto (-36), 3) := by decide +kernel
theorem dX5_wayInto_41 : decode cX5_wayInto 41 = .ok (.aload_n 0, 1) := by decide +kernel
theorem dX5_wayInto_42 : decode cX5_wayInto 42 = .ok (.getfield 42, 3) := by decide +kernel
theorem dX5_wayInto_45 : decode cX5_wayInto 45 = .ok (.aload_n 1, 1) := by decide +kernel
theorem dX5_wayInto_46 : decode cX5_wayInto 46 = .ok (.arraylength, 1) := by decide +kernel
theorem dX5_wayInto_47 : decode cX5_wayInto 47 = .ok (.if_icmp .ge 10, 3) := by decide +kernel
theorem dX5_wayInto_50 : decode cX5_wayInto 50 = .ok (.aload_n 0, 1) := by decide +kernel
theorem dX5_wayInto_51 : decode cX5_wayInto 51 = .ok (.getfield 42, 3) := by decide +kernel
theorem dX5_wayInto_54 : decode cX5_wayInto 54 = .ok (.goto 5, 3) := by decide +kernel
theorem dX5_wayInto_57 : decode cX5_wayInto 57 = .ok (.aload_n 1, 1) := by decide +kernel
theorem dX5_wayInto_58 : decode cX5_wayInto 58 = .ok (.arraylength, 1) := by decide +kernel
theorem dX5_wayInto_59 : decode cX5_wayInto 59 = .ok (.ireturn, 1) := by decide +kernel
theorem dX5_valuesByWayInto_0 : decode cX5_valuesByWayInto 0 = .ok (.aload_n 0, 1) := by decide +kernel
theorem dX5_valuesByWayInto_1 : decode cX5_valuesByWayInto 1 = .ok (.aload_n 1, 1) := by decide +kernel
theorem dX5_valuesByWayInto_2 : decode cX5_valuesByWayInto 2 = .ok (.invokevirtual 99, 3) := by decide +kernel
theorem dX5_valuesByWayInto_5 : decode cX5_valuesByWayInto 5 = .ok (.istore_n 2, 1) := by decide +kernel
theorem dX5_valuesByWayInto_6 : decode cX5_valuesByWayInto 6 = .ok (.iconst 0, 1) := by decide +kernel
theorem dX5_valuesByWayInto_7 : decode cX5_valuesByWayInto 7 = .ok (.istore_n 3, 1) := by decide +kernel
theorem dX5_valuesByWayInto_8 : decode cX5_valuesByWayInto 8 = .ok (.iconst 0, 1) := by decide +kernel
theorem dX5_valuesByWayInto_9 : decode cX5_valuesByWayInto 9 = .ok (.istore 4, 2) := by decide +kernel
theorem dX5_valuesByWayInto_11 : decode cX5_valuesByWayInto 11 = .ok (.iload 4, 2) := by decide +kernel
theorem dX5_valuesByWayInto_13 : decode cX5_valuesByWayInto 13 = .ok (.iload_n 2, 1) := by decide +kernel
theorem dX5_valuesByWayInto_14 : decode cX5_valuesByWayInto 14 = .ok (.if_icmp .ge 20, 3) := by decide +kernel
theorem dX5_valuesByWayInto_17 : decode cX5_valuesByWayInto 17 = .ok (.aload_n 1, 1) := by decide +kernel
theorem dX5_valuesByWayInto_18 : decode cX5_valuesByWayInto 18 = .ok (.iload 4, 2) := by decide +kernel
theorem dX5_valuesByWayInto_20 : decode cX5_valuesByWayInto 20 = .ok (.iaload, 1) := by decide +kernel
theorem dX5_valuesByWayInto_21 : decode cX5_valuesByWayInto 21 = .ok (.iconst (-1), 1) := by decide +kernel
theorem dX5_valuesByWayInto_22 : decode cX5_valuesByWayInto 22 = .ok (.if_icmp .ne 6, 3) := by decide +kernel
theorem dX5_valuesByWayInto_25 : decode cX5_valuesByWayInto 25 = .ok (.iinc 3 1, 3) := by decide +kernel
theorem dX5_valuesByWayInto_28 : decode cX5_valuesByWayInto 28 = .ok (.iinc 4 1, 3) := by decide +kernel
theorem dX5_valuesByWayInto_31 : decode cX5_valuesByWayInto 31 = .ok (.goto (-20), 3) := by decide +kernel
theorem dX5_valuesByWayInto_34 : decode cX5_valuesByWayInto 34 = .ok (.iconst 0, 1) := by decide +kernel
theorem dX5_valuesByWayInto_35 : decode cX5_valuesByWayInto 35 = .ok (.istore 4, 2) := by decide +kernel
theorem dX5_valuesByWayInto_37 : decode cX5_valuesByWayInto 37 = .ok (.iconst 0, 1) := by decide +kernel
theorem dX5_valuesByWayInto_38 : decode cX5_valuesByWayInto 38 = .ok (.istore 5, 2) := by decide +kernel
theorem dX5_valuesByWayInto_40 : decode cX5_valuesByWayInto 40 = .ok (.iload 5, 2) := by decide +kernel
theorem dX5_valuesByWayInto_42 : decode cX5_valuesByWayInto 42 = .ok (.iload_n 2, 1) := by decide +kernel
theorem dX5_valuesByWayInto_43 : decode cX5_valuesByWayInto 43 = .ok (.if_icmp .ge 38, 3) := by decide +kernel
theorem dX5_valuesByWayInto_46 : decode cX5_valuesByWayInto 46 = .ok (.aload_n 1, 1) := by decide +kernel
theorem dX5_valuesByWayInto_47 : decode cX5_valuesByWayInto 47 = .ok (.iload 5, 2) := by decide +kernel
theorem dX5_valuesByWayInto_49 : decode cX5_valuesByWayInto 49 = .ok (.iaload, 1) := by decide +kernel
theorem dX5_valuesByWayInto_50 : decode cX5_valuesByWayInto 50 = .ok (.iconst (-1), 1) := by decide +kernel
theorem dX5_valuesByWayInto_51 : decode cX5_valuesByWayInto 51 = .ok (.if_icmp .eq 24, 3) := by decide +kernel
theorem dX5_valuesByWayInto_54 : decode cX5_valuesByWayInto 54 = .ok (.iload_n 3, 1) := by decide +kernel
theorem dX5_valuesByWayInto_55 : decode cX5_valuesByWayInto 55 = .ok (.ifCond .le 9, 3) := by decide +kernel
theorem dX5_valuesByWayInto_58 : decode cX5_valuesByWayInto 58 = .ok (.iinc 3 (-1), 3) := by decide +kernel
theorem dX5_valuesByWayInto_61 : decode cX5_valuesByWayInto 61 = .ok (.goto 14, 3) := by decide +kernel
theorem dX5_valuesByWayInto_64 : decode cX5_valuesByWayInto 64 = .ok (.aload_n 1, 1) := by decide +kernel
theorem dX5_valuesByWayInto_65 : decode cX5_valuesByWayInto 65 = .ok (.iload 4, 2) := by decide +kernel
theorem dX5_valuesByWayInto_67 : decode cX5_valuesByWayInto 67 = .ok (.aload_n 1, 1) := by decide +kernel
theorem dX5_valuesByWayInto_68 : decode cX5_valuesByWayInto 68 = .ok (.iload 5, 2) := by decide +kernel
theorem dX5_valuesByWayInto_70 : decode cX5_valuesByWayInto 70 = .ok (.iaload, 1) := by decide +kernel
theorem dX5_valuesByWayInto_71 : decode cX5_valuesByWayInto 71 = .ok (.iastore, 1) := by decide +kernel
theorem dX5_valuesByWayInto_72 : decode cX5_valuesByWayInto 72 = .ok (.iinc 4 1, 3) := by decide +kernel
theorem dX5_valuesByWayInto_75 : decode cX5_valuesByWayInto 75 = .ok (.iinc 5 1, 3) := by decide +kernel
theorem dX5_valuesByWayInto_78 : decode cX5_valuesByWayInto 78 = .ok (.goto (-38), 3) := by decide +kernel
theorem dX5_valuesByWayInto_81 : decode cX5_valuesByWayInto 81 = .ok (.iload 4, 2) := by decide +kernel
theorem dX5_valuesByWayInto_83 : decode cX5_valuesByWayInto 83 = .ok (.ireturn, 1) := by decide +kernel
theorem dX5_wasMadeFrom_0 : decode cX5_wasMadeFrom 0 = .ok (.aload_n 0, 1) := by decide +kernel
theorem dX5_wasMadeFrom_1 : decode cX5_wasMadeFrom 1 = .ok (.astore_n 2, 1) := by decide +kernel
theorem dX5_wasMadeFrom_2 : decode cX5_wasMadeFrom 2 = .ok (.aload_n 2, 1) := by decide +kernel
theorem dX5_wasMadeFrom_3 : decode cX5_wasMadeFrom 3 = .ok (.ifnull 18, 3) := by decide +kernel
theorem dX5_wasMadeFrom_6 : decode cX5_wasMadeFrom 6 = .ok (.aload_n 2, 1) := by decide +kernel
theorem dX5_wasMadeFrom_7 : decode cX5_wasMadeFrom 7 = .ok (.aload_n 1, 1) := by decide +kernel
theorem dX5_wasMadeFrom_8 : decode cX5_wasMadeFrom 8 = .ok (.if_acmp .ne 5, 3) := by decide +kernel
theorem dX5_wasMadeFrom_11 : decode cX5_wasMadeFrom 11 = .ok (.iconst 1, 1) := by decide +kernel
theorem dX5_wasMadeFrom_12 : decode cX5_wasMadeFrom 12 = .ok (.ireturn, 1) := by decide +kernel
theorem dX5_wasMadeFrom_13 : decode cX5_wasMadeFrom 13 = .ok (.aload_n 2, 1) := by decide +kernel
theorem dX5_wasMadeFrom_14 : decode cX5_wasMadeFrom 14 = .ok (.getfield 35, 3) := by decide +kernel
theorem dX5_wasMadeFrom_17 : decode cX5_wasMadeFrom 17 = .ok (.astore_n 2, 1) := by decide +kernel
theorem dX5_wasMadeFrom_18 : decode cX5_wasMadeFrom 18 = .ok (.goto (-16), 3) := by decide +kernel
theorem dX5_wasMadeFrom_21 : decode cX5_wasMadeFrom 21 = .ok (.iconst 0, 1) := by decide +kernel
theorem dX5_wasMadeFrom_22 : decode cX5_wasMadeFrom 22 = .ok (.ireturn, 1) := by decide +kernel
theorem dX5_stepsOnWay_0 : decode cX5_stepsOnWay 0 = .ok (.iconst 0, 1) := by decide +kernel
theorem dX5_stepsOnWay_1 : decode cX5_stepsOnWay 1 = .ok (.istore_n 1, 1) := by decide +kernel
theorem dX5_stepsOnWay_2 : decode cX5_stepsOnWay 2 = .ok (.aload_n 0, 1) := by decide +kernel
theorem dX5_stepsOnWay_3 : decode cX5_stepsOnWay 3 = .ok (.astore_n 2, 1) := by decide +kernel
theorem dX5_stepsOnWay_4 : decode cX5_stepsOnWay 4 = .ok (.aload_n 2, 1) := by decide +kernel
theorem dX5_stepsOnWay_5 : decode cX5_stepsOnWay 5 = .ok (.ifnull 18, 3) := by decide +kernel
theorem dX5_stepsOnWay_8 : decode cX5_stepsOnWay 8 = .ok (.iload_n 1, 1) := by decide +kernel
theorem dX5_stepsOnWay_9 : decode cX5_stepsOnWay 9 = .ok (.aload_n 2, 1) := by decide +kernel
theorem dX5_stepsOnWay_10 : decode cX5_stepsOnWay 10 = .ok (.getfield 32, 3) := by decide +kernel
theorem dX5_stepsOnWay_13 : decode cX5_stepsOnWay 13 = .ok (.iadd, 1) := by decide +kernel
theorem dX5_stepsOnWay_14 : decode cX5_stepsOnWay 14 = .ok (.istore_n 1, 1) := by decide +kernel
theorem dX5_stepsOnWay_15 : decode cX5_stepsOnWay 15 = .ok (.aload_n 2, 1) := by decide +kernel
theorem dX5_stepsOnWay_16 : decode cX5_stepsOnWay 16 = .ok (.getfield 35, 3) := by decide +kernel
theorem dX5_stepsOnWay_19 : decode cX5_stepsOnWay 19 = .ok (.astore_n 2, 1) := by decide +kernel
theorem dX5_stepsOnWay_20 : decode cX5_stepsOnWay 20 = .ok (.goto (-16), 3) := by decide +kernel
theorem dX5_stepsOnWay_23 : decode cX5_stepsOnWay 23 = .ok (.iload_n 1, 1) := by decide +kernel
