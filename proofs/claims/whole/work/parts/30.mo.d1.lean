theorem d_M_step_185 : decode b_M_step 185 = .ok (.bipush 8, 2) := by decide +kernel
theorem d_M_step_187 : decode b_M_step 187 = .ok (.putfield 56, 3) := by decide +kernel
theorem d_M_step_190 : decode b_M_step 190 = .ok (.iconst 1, 1) := by decide +kernel
theorem d_M_step_191 : decode b_M_step 191 = .ok (.ireturn, 1) := by decide +kernel
theorem d_M_step_192 : decode b_M_step 192 = .ok (.aload_n 0, 1) := by decide +kernel
theorem d_M_step_193 : decode b_M_step 193 = .ok (.getfield 56, 3) := by decide +kernel
theorem d_M_step_196 : decode b_M_step 196 = .ok (.bipush 10, 2) := by decide +kernel
theorem d_M_step_198 : decode b_M_step 198 = .ok (.if_icmp .eq 18, 3) := by decide +kernel
theorem d_M_step_201 : decode b_M_step 201 = .ok (.aload_n 0, 1) := by decide +kernel
theorem d_M_step_202 : decode b_M_step 202 = .ok (.getfield 56, 3) := by decide +kernel
theorem d_M_step_205 : decode b_M_step 205 = .ok (.bipush 9, 2) := by decide +kernel
theorem d_M_step_207 : decode b_M_step 207 = .ok (.if_icmp .ne 15, 3) := by decide +kernel
theorem d_M_step_210 : decode b_M_step 210 = .ok (.iload_n 1, 1) := by decide +kernel
theorem d_M_step_211 : decode b_M_step 211 = .ok (.bipush 48, 2) := by decide +kernel
theorem d_M_step_213 : decode b_M_step 213 = .ok (.if_icmp .eq 9, 3) := by decide +kernel
theorem d_M_step_216 : decode b_M_step 216 = .ok (.aload_n 0, 1) := by decide +kernel
theorem d_M_step_217 : decode b_M_step 217 = .ok (.iload_n 1, 1) := by decide +kernel
theorem d_M_step_218 : decode b_M_step 218 = .ok (.invokevirtual 88, 3) := by decide +kernel
theorem d_M_step_221 : decode b_M_step 221 = .ok (.ireturn, 1) := by decide +kernel
theorem d_M_step_222 : decode b_M_step 222 = .ok (.aload_n 0, 1) := by decide +kernel
theorem d_M_step_223 : decode b_M_step 223 = .ok (.getfield 13, 3) := by decide +kernel
theorem d_M_step_226 : decode b_M_step 226 = .ok (.iconst 4, 1) := by decide +kernel
theorem d_M_step_227 : decode b_M_step 227 = .ok (.dup2, 1) := by decide +kernel
theorem d_M_step_228 : decode b_M_step 228 = .ok (.iaload, 1) := by decide +kernel
theorem d_M_step_229 : decode b_M_step 229 = .ok (.iconst 1, 1) := by decide +kernel
theorem d_M_step_230 : decode b_M_step 230 = .ok (.iadd, 1) := by decide +kernel
theorem d_M_step_231 : decode b_M_step 231 = .ok (.iastore, 1) := by decide +kernel
theorem d_M_step_232 : decode b_M_step 232 = .ok (.aload_n 0, 1) := by decide +kernel
theorem d_M_step_233 : decode b_M_step 233 = .ok (.bipush 9, 2) := by decide +kernel
theorem d_M_step_235 : decode b_M_step 235 = .ok (.putfield 56, 3) := by decide +kernel
theorem d_M_step_238 : decode b_M_step 238 = .ok (.iload_n 1, 1) := by decide +kernel
theorem d_M_step_239 : decode b_M_step 239 = .ok (.bipush 48, 2) := by decide +kernel
theorem d_M_step_241 : decode b_M_step 241 = .ok (.if_icmp .ne 7, 3) := by decide +kernel
theorem d_M_step_244 : decode b_M_step 244 = .ok (.iconst 1, 1) := by decide +kernel
theorem d_M_step_245 : decode b_M_step 245 = .ok (.goto 4, 3) := by decide +kernel
theorem d_M_step_248 : decode b_M_step 248 = .ok (.iconst 0, 1) := by decide +kernel
theorem d_M_step_249 : decode b_M_step 249 = .ok (.ireturn, 1) := by decide +kernel
theorem d_M_apply_0 : decode b_M_apply 0 = .ok (.aload_n 0, 1) := by decide +kernel
theorem d_M_apply_1 : decode b_M_apply 1 = .ok (.iconst 0, 1) := by decide +kernel
theorem d_M_apply_2 : decode b_M_apply 2 = .ok (.invokevirtual 74, 3) := by decide +kernel
theorem d_M_apply_5 : decode b_M_apply 5 = .ok (.iconst 0, 1) := by decide +kernel
theorem d_M_apply_6 : decode b_M_apply 6 = .ok (.istore_n 1, 1) := by decide +kernel
theorem d_M_apply_7 : decode b_M_apply 7 = .ok (.iload_n 1, 1) := by decide +kernel
theorem d_M_apply_8 : decode b_M_apply 8 = .ok (.aload_n 0, 1) := by decide +kernel
theorem d_M_apply_9 : decode b_M_apply 9 = .ok (.getfield 50, 3) := by decide +kernel
theorem d_M_apply_12 : decode b_M_apply 12 = .ok (.if_icmp .ge 26, 3) := by decide +kernel
theorem d_M_apply_15 : decode b_M_apply 15 = .ok (.aload_n 0, 1) := by decide +kernel
theorem d_M_apply_16 : decode b_M_apply 16 = .ok (.aload_n 0, 1) := by decide +kernel
theorem d_M_apply_17 : decode b_M_apply 17 = .ok (.getfield 7, 3) := by decide +kernel
theorem d_M_apply_20 : decode b_M_apply 20 = .ok (.iload_n 1, 1) := by decide +kernel
theorem d_M_apply_21 : decode b_M_apply 21 = .ok (.iaload, 1) := by decide +kernel
theorem d_M_apply_22 : decode b_M_apply 22 = .ok (.invokevirtual 101, 3) := by decide +kernel
theorem d_M_apply_25 : decode b_M_apply 25 = .ok (.ifCond .ne 7, 3) := by decide +kernel
theorem d_M_apply_28 : decode b_M_apply 28 = .ok (.iload_n 1, 1) := by decide +kernel
theorem d_M_apply_29 : decode b_M_apply 29 = .ok (.iconst 1, 1) := by decide +kernel
theorem d_M_apply_30 : decode b_M_apply 30 = .ok (.iadd, 1) := by decide +kernel
theorem d_M_apply_31 : decode b_M_apply 31 = .ok (.ireturn, 1) := by decide +kernel
theorem d_M_apply_32 : decode b_M_apply 32 = .ok (.iinc 1 1, 3) := by decide +kernel
theorem d_M_apply_35 : decode b_M_apply 35 = .ok (.goto (-28), 3) := by decide +kernel
theorem d_M_apply_38 : decode b_M_apply 38 = .ok (.aload_n 0, 1) := by decide +kernel
theorem d_M_apply_39 : decode b_M_apply 39 = .ok (.getfield 56, 3) := by decide +kernel
theorem d_M_apply_42 : decode b_M_apply 42 = .ok (.iconst 2, 1) := by decide +kernel
theorem d_M_apply_43 : decode b_M_apply 43 = .ok (.if_icmp .eq 38, 3) := by decide +kernel
theorem d_M_apply_46 : decode b_M_apply 46 = .ok (.aload_n 0, 1) := by decide +kernel
theorem d_M_apply_47 : decode b_M_apply 47 = .ok (.getfield 56, 3) := by decide +kernel
theorem d_M_apply_50 : decode b_M_apply 50 = .ok (.iconst 5, 1) := by decide +kernel
theorem d_M_apply_51 : decode b_M_apply 51 = .ok (.if_icmp .eq 30, 3) := by decide +kernel
theorem d_M_apply_54 : decode b_M_apply 54 = .ok (.aload_n 0, 1) := by decide +kernel
theorem d_M_apply_55 : decode b_M_apply 55 = .ok (.getfield 56, 3) := by decide +kernel
theorem d_M_apply_58 : decode b_M_apply 58 = .ok (.bipush 6, 2) := by decide +kernel
theorem d_M_apply_60 : decode b_M_apply 60 = .ok (.if_icmp .eq 21, 3) := by decide +kernel
theorem d_M_apply_63 : decode b_M_apply 63 = .ok (.aload_n 0, 1) := by decide +kernel
theorem d_M_apply_64 : decode b_M_apply 64 = .ok (.getfield 56, 3) := by decide +kernel
theorem d_M_apply_67 : decode b_M_apply 67 = .ok (.bipush 9, 2) := by decide +kernel
theorem d_M_apply_69 : decode b_M_apply 69 = .ok (.if_icmp .eq 12, 3) := by decide +kernel
theorem d_M_apply_72 : decode b_M_apply 72 = .ok (.aload_n 0, 1) := by decide +kernel
theorem d_M_apply_73 : decode b_M_apply 73 = .ok (.getfield 56, 3) := by decide +kernel
theorem d_M_apply_76 : decode b_M_apply 76 = .ok (.bipush 10, 2) := by decide +kernel
theorem d_M_apply_78 : decode b_M_apply 78 = .ok (.if_icmp .ne 7, 3) := by decide +kernel
theorem d_M_apply_81 : decode b_M_apply 81 = .ok (.iconst 1, 1) := by decide +kernel
theorem d_M_apply_82 : decode b_M_apply 82 = .ok (.goto 4, 3) := by decide +kernel
theorem d_M_apply_85 : decode b_M_apply 85 = .ok (.iconst 0, 1) := by decide +kernel
theorem d_M_apply_86 : decode b_M_apply 86 = .ok (.istore_n 1, 1) := by decide +kernel
theorem d_M_apply_87 : decode b_M_apply 87 = .ok (.iload_n 1, 1) := by decide +kernel
theorem d_M_apply_88 : decode b_M_apply 88 = .ok (.ifCond .ne 10, 3) := by decide +kernel
theorem d_M_apply_91 : decode b_M_apply 91 = .ok (.aload_n 0, 1) := by decide +kernel
theorem d_M_apply_92 : decode b_M_apply 92 = .ok (.getfield 50, 3) := by decide +kernel
theorem d_M_apply_95 : decode b_M_apply 95 = .ok (.iconst 1, 1) := by decide +kernel
theorem d_M_apply_96 : decode b_M_apply 96 = .ok (.iadd, 1) := by decide +kernel
theorem d_M_apply_97 : decode b_M_apply 97 = .ok (.ireturn, 1) := by decide +kernel
theorem d_M_apply_98 : decode b_M_apply 98 = .ok (.aload_n 0, 1) := by decide +kernel
theorem d_M_apply_99 : decode b_M_apply 99 = .ok (.getfield 53, 3) := by decide +kernel
theorem d_M_apply_102 : decode b_M_apply 102 = .ok (.ifCond .ne 14, 3) := by decide +kernel
theorem d_M_apply_105 : decode b_M_apply 105 = .ok (.aload_n 0, 1) := by decide +kernel
theorem d_M_apply_106 : decode b_M_apply 106 = .ok (.getfield 13, 3) := by decide +kernel
theorem d_M_apply_109 : decode b_M_apply 109 = .ok (.aload_n 0, 1) := by decide +kernel
theorem d_M_apply_110 : decode b_M_apply 110 = .ok (.getfield 16, 3) := by decide +kernel
theorem d_M_apply_113 : decode b_M_apply 113 = .ok (.invokestatic 70, 3) := by decide +kernel
theorem d_M_apply_116 : decode b_M_apply 116 = .ok (.aload_n 0, 1) := by decide +kernel
theorem d_M_apply_117 : decode b_M_apply 117 = .ok (.getfield 16, 3) := by decide +kernel
theorem d_M_apply_120 : decode b_M_apply 120 = .ok (.aload_n 0, 1) := by decide +kernel
theorem d_M_apply_121 : decode b_M_apply 121 = .ok (.getfield 19, 3) := by decide +kernel
theorem d_M_apply_124 : decode b_M_apply 124 = .ok (.invokestatic 70, 3) := by decide +kernel
theorem d_M_apply_127 : decode b_M_apply 127 = .ok (.aload_n 0, 1) := by decide +kernel
theorem d_M_apply_128 : decode b_M_apply 128 = .ok (.getfield 19, 3) := by decide +kernel
theorem d_M_apply_131 : decode b_M_apply 131 = .ok (.bipush 8, 2) := by decide +kernel
theorem d_M_apply_133 : decode b_M_apply 133 = .ok (.aload_n 0, 1) := by decide +kernel
theorem d_M_apply_134 : decode b_M_apply 134 = .ok (.getfield 19, 3) := by decide +kernel
theorem d_M_apply_137 : decode b_M_apply 137 = .ok (.bipush 6, 2) := by decide +kernel
theorem d_M_apply_139 : decode b_M_apply 139 = .ok (.iaload, 1) := by decide +kernel
theorem d_M_apply_140 : decode b_M_apply 140 = .ok (.iconst 1, 1) := by decide +kernel
theorem d_M_apply_141 : decode b_M_apply 141 = .ok (.if_icmp .ne 13, 3) := by decide +kernel
theorem d_M_apply_144 : decode b_M_apply 144 = .ok (.aload_n 0, 1) := by decide +kernel
theorem d_M_apply_145 : decode b_M_apply 145 = .ok (.getfield 19, 3) := by decide +kernel
theorem d_M_apply_148 : decode b_M_apply 148 = .ok (.bipush 7, 2) := by decide +kernel
theorem d_M_apply_150 : decode b_M_apply 150 = .ok (.iaload, 1) := by decide +kernel
theorem d_M_apply_151 : decode b_M_apply 151 = .ok (.goto 10, 3) := by decide +kernel
theorem d_M_apply_154 : decode b_M_apply 154 = .ok (.aload_n 0, 1) := by decide +kernel
theorem d_M_apply_155 : decode b_M_apply 155 = .ok (.getfield 19, 3) := by decide +kernel
theorem d_M_apply_158 : decode b_M_apply 158 = .ok (.bipush 8, 2) := by decide +kernel
theorem d_M_apply_160 : decode b_M_apply 160 = .ok (.iaload, 1) := by decide +kernel
theorem d_M_apply_161 : decode b_M_apply 161 = .ok (.iastore, 1) := by decide +kernel
theorem d_M_apply_162 : decode b_M_apply 162 = .ok (.aload_n 0, 1) := by decide +kernel
theorem d_M_apply_163 : decode b_M_apply 163 = .ok (.aload_n 0, 1) := by decide +kernel
theorem d_M_apply_164 : decode b_M_apply 164 = .ok (.getfield 53, 3) := by decide +kernel
theorem d_M_apply_167 : decode b_M_apply 167 = .ok (.iconst 1, 1) := by decide +kernel
theorem d_M_apply_168 : decode b_M_apply 168 = .ok (.if_icmp .ne 7, 3) := by decide +kernel
theorem d_M_apply_171 : decode b_M_apply 171 = .ok (.iconst 1, 1) := by decide +kernel
theorem d_M_apply_172 : decode b_M_apply 172 = .ok (.goto 4, 3) := by decide +kernel
theorem d_M_apply_175 : decode b_M_apply 175 = .ok (.iconst 0, 1) := by decide +kernel
theorem d_M_apply_176 : decode b_M_apply 176 = .ok (.putfield 104, 3) := by decide +kernel
theorem d_M_apply_179 : decode b_M_apply 179 = .ok (.iconst 0, 1) := by decide +kernel
theorem d_M_apply_180 : decode b_M_apply 180 = .ok (.istore_n 2, 1) := by decide +kernel
theorem d_M_apply_181 : decode b_M_apply 181 = .ok (.iload_n 2, 1) := by decide +kernel
theorem d_M_apply_182 : decode b_M_apply 182 = .ok (.iconst 4, 1) := by decide +kernel
theorem d_M_apply_183 : decode b_M_apply 183 = .ok (.if_icmp .ge 37, 3) := by decide +kernel
theorem d_M_apply_186 : decode b_M_apply 186 = .ok (.aload_n 0, 1) := by decide +kernel
theorem d_M_apply_187 : decode b_M_apply 187 = .ok (.getfield 31, 3) := by decide +kernel
theorem d_M_apply_190 : decode b_M_apply 190 = .ok (.iload_n 2, 1) := by decide +kernel
theorem d_M_apply_191 : decode b_M_apply 191 = .ok (.iload_n 2, 1) := by decide +kernel
theorem d_M_apply_192 : decode b_M_apply 192 = .ok (.iconst 2, 1) := by decide +kernel
theorem d_M_apply_193 : decode b_M_apply 193 = .ok (.if_icmp .lt 10, 3) := by decide +kernel
theorem d_M_apply_196 : decode b_M_apply 196 = .ok (.aload_n 0, 1) := by decide +kernel
theorem d_M_apply_197 : decode b_M_apply 197 = .ok (.getfield 104, 3) := by decide +kernel
theorem d_M_apply_200 : decode b_M_apply 200 = .ok (.ifCond .eq 12, 3) := by decide +kernel
theorem d_M_apply_203 : decode b_M_apply 203 = .ok (.aload_n 0, 1) := by decide +kernel
theorem d_M_apply_204 : decode b_M_apply 204 = .ok (.getfield 25, 3) := by decide +kernel
theorem d_M_apply_207 : decode b_M_apply 207 = .ok (.iload_n 2, 1) := by decide +kernel
theorem d_M_apply_208 : decode b_M_apply 208 = .ok (.iaload, 1) := by decide +kernel
theorem d_M_apply_209 : decode b_M_apply 209 = .ok (.goto 4, 3) := by decide +kernel
theorem d_M_apply_212 : decode b_M_apply 212 = .ok (.iconst 0, 1) := by decide +kernel
theorem d_M_apply_213 : decode b_M_apply 213 = .ok (.iastore, 1) := by decide +kernel
theorem d_M_apply_214 : decode b_M_apply 214 = .ok (.iinc 2 1, 3) := by decide +kernel
theorem d_M_apply_217 : decode b_M_apply 217 = .ok (.goto (-36), 3) := by decide +kernel
theorem d_M_apply_220 : decode b_M_apply 220 = .ok (.iconst 0, 1) := by decide +kernel
theorem d_M_apply_221 : decode b_M_apply 221 = .ok (.istore_n 2, 1) := by decide +kernel
theorem d_M_apply_222 : decode b_M_apply 222 = .ok (.iload_n 2, 1) := by decide +kernel
theorem d_M_apply_223 : decode b_M_apply 223 = .ok (.sipush 160, 3) := by decide +kernel
theorem d_M_apply_226 : decode b_M_apply 226 = .ok (.if_icmp .ge 21, 3) := by decide +kernel
theorem d_M_apply_229 : decode b_M_apply 229 = .ok (.aload_n 0, 1) := by decide +kernel
theorem d_M_apply_230 : decode b_M_apply 230 = .ok (.getfield 28, 3) := by decide +kernel
theorem d_M_apply_233 : decode b_M_apply 233 = .ok (.iload_n 2, 1) := by decide +kernel
theorem d_M_apply_234 : decode b_M_apply 234 = .ok (.aload_n 0, 1) := by decide +kernel
theorem d_M_apply_235 : decode b_M_apply 235 = .ok (.getfield 22, 3) := by decide +kernel
theorem d_M_apply_238 : decode b_M_apply 238 = .ok (.iload_n 2, 1) := by decide +kernel
theorem d_M_apply_239 : decode b_M_apply 239 = .ok (.iaload, 1) := by decide +kernel
theorem d_M_apply_240 : decode b_M_apply 240 = .ok (.iastore, 1) := by decide +kernel
theorem d_M_apply_241 : decode b_M_apply 241 = .ok (.iinc 2 1, 3) := by decide +kernel
theorem d_M_apply_244 : decode b_M_apply 244 = .ok (.goto (-22), 3) := by decide +kernel
theorem d_M_apply_247 : decode b_M_apply 247 = .ok (.aload_n 0, 1) := by decide +kernel
theorem d_M_apply_248 : decode b_M_apply 248 = .ok (.iconst 0, 1) := by decide +kernel
theorem d_M_apply_249 : decode b_M_apply 249 = .ok (.putfield 50, 3) := by decide +kernel
theorem d_M_apply_252 : decode b_M_apply 252 = .ok (.iconst 0, 1) := by decide +kernel
theorem d_M_apply_253 : decode b_M_apply 253 = .ok (.ireturn, 1) := by decide +kernel
theorem d_M_sign_0 : decode b_M_sign 0 = .ok (.iload_n 1, 1) := by decide +kernel
theorem d_M_sign_1 : decode b_M_sign 1 = .ok (.bipush 6, 2) := by decide +kernel
theorem d_M_sign_3 : decode b_M_sign 3 = .ok (.if_icmp .ge 12, 3) := by decide +kernel
theorem d_M_sign_6 : decode b_M_sign 6 = .ok (.aload_n 0, 1) := by decide +kernel
theorem d_M_sign_7 : decode b_M_sign 7 = .ok (.getfield 34, 3) := by decide +kernel
theorem d_M_sign_10 : decode b_M_sign 10 = .ok (.iload_n 1, 1) := by decide +kernel
theorem d_M_sign_11 : decode b_M_sign 11 = .ok (.iaload, 1) := by decide +kernel
theorem d_M_sign_12 : decode b_M_sign 12 = .ok (.goto 24, 3) := by decide +kernel
theorem d_M_sign_15 : decode b_M_sign 15 = .ok (.iload_n 1, 1) := by decide +kernel
theorem d_M_sign_16 : decode b_M_sign 16 = .ok (.bipush 15, 2) := by decide +kernel
theorem d_M_sign_18 : decode b_M_sign 18 = .ok (.if_icmp .ge 16, 3) := by decide +kernel
theorem d_M_sign_21 : decode b_M_sign 21 = .ok (.aload_n 0, 1) := by decide +kernel
theorem d_M_sign_22 : decode b_M_sign 22 = .ok (.getfield 34, 3) := by decide +kernel
theorem d_M_sign_25 : decode b_M_sign 25 = .ok (.iconst 5, 1) := by decide +kernel
theorem d_M_sign_26 : decode b_M_sign 26 = .ok (.iaload, 1) := by decide +kernel
theorem d_M_sign_27 : decode b_M_sign 27 = .ok (.iload_n 1, 1) := by decide +kernel
theorem d_M_sign_28 : decode b_M_sign 28 = .ok (.iadd, 1) := by decide +kernel
theorem d_M_sign_29 : decode b_M_sign 29 = .ok (.iconst 5, 1) := by decide +kernel
theorem d_M_sign_30 : decode b_M_sign 30 = .ok (.isub, 1) := by decide +kernel
theorem d_M_sign_31 : decode b_M_sign 31 = .ok (.goto 5, 3) := by decide +kernel
theorem d_M_sign_34 : decode b_M_sign 34 = .ok (.bipush 43, 2) := by decide +kernel
theorem d_M_sign_36 : decode b_M_sign 36 = .ok (.ireturn, 1) := by decide +kernel
theorem d_M_symbol_0 : decode b_M_symbol 0 = .ok (.iload_n 1, 1) := by decide +kernel
theorem d_M_symbol_1 : decode b_M_symbol 1 = .ok (.ifCond .lt 8, 3) := by decide +kernel
theorem d_M_symbol_4 : decode b_M_symbol 4 = .ok (.iload_n 1, 1) := by decide +kernel
theorem d_M_symbol_5 : decode b_M_symbol 5 = .ok (.iconst 5, 1) := by decide +kernel
theorem d_M_symbol_6 : decode b_M_symbol 6 = .ok (.if_icmp .le 5, 3) := by decide +kernel
theorem d_M_symbol_9 : decode b_M_symbol 9 = .ok (.iconst 0, 1) := by decide +kernel
theorem d_M_symbol_10 : decode b_M_symbol 10 = .ok (.ireturn, 1) := by decide +kernel
theorem d_M_symbol_11 : decode b_M_symbol 11 = .ok (.aload_n 0, 1) := by decide +kernel
theorem d_M_symbol_12 : decode b_M_symbol 12 = .ok (.getfield 34, 3) := by decide +kernel
theorem d_M_symbol_15 : decode b_M_symbol 15 = .ok (.iload_n 1, 1) := by decide +kernel
theorem d_M_symbol_16 : decode b_M_symbol 16 = .ok (.iaload, 1) := by decide +kernel
theorem d_M_symbol_17 : decode b_M_symbol 17 = .ok (.istore_n 3, 1) := by decide +kernel
theorem d_M_symbol_18 : decode b_M_symbol 18 = .ok (.aload_n 0, 1) := by decide +kernel
theorem d_M_symbol_19 : decode b_M_symbol 19 = .ok (.getfield 34, 3) := by decide +kernel
theorem d_M_symbol_22 : decode b_M_symbol 22 = .ok (.iload_n 1, 1) := by decide +kernel
theorem d_M_symbol_23 : decode b_M_symbol 23 = .ok (.iload_n 2, 1) := by decide +kernel
theorem d_M_symbol_24 : decode b_M_symbol 24 = .ok (.iastore, 1) := by decide +kernel
theorem d_M_symbol_25 : decode b_M_symbol 25 = .ok (.aload_n 0, 1) := by decide +kernel
theorem d_M_symbol_26 : decode b_M_symbol 26 = .ok (.getfield 34, 3) := by decide +kernel
theorem d_M_symbol_29 : decode b_M_symbol 29 = .ok (.iconst 5, 1) := by decide +kernel
theorem d_M_symbol_30 : decode b_M_symbol 30 = .ok (.iaload, 1) := by decide +kernel
theorem d_M_symbol_31 : decode b_M_symbol 31 = .ok (.bipush 9, 2) := by decide +kernel
theorem d_M_symbol_33 : decode b_M_symbol 33 = .ok (.iadd, 1) := by decide +kernel
theorem d_M_symbol_34 : decode b_M_symbol 34 = .ok (.bipush 126, 2) := by decide +kernel
theorem d_M_symbol_36 : decode b_M_symbol 36 = .ok (.if_icmp .gt 7, 3) := by decide +kernel
theorem d_M_symbol_39 : decode b_M_symbol 39 = .ok (.iconst 1, 1) := by decide +kernel
theorem d_M_symbol_40 : decode b_M_symbol 40 = .ok (.goto 4, 3) := by decide +kernel
theorem d_M_symbol_43 : decode b_M_symbol 43 = .ok (.iconst 0, 1) := by decide +kernel
theorem d_M_symbol_44 : decode b_M_symbol 44 = .ok (.istore 4, 2) := by decide +kernel
theorem d_M_symbol_46 : decode b_M_symbol 46 = .ok (.iconst 0, 1) := by decide +kernel
theorem d_M_symbol_47 : decode b_M_symbol 47 = .ok (.istore 5, 2) := by decide +kernel
theorem d_M_symbol_49 : decode b_M_symbol 49 = .ok (.iload 5, 2) := by decide +kernel
theorem d_M_symbol_51 : decode b_M_symbol 51 = .ok (.bipush 16, 2) := by decide +kernel
theorem d_M_symbol_53 : decode b_M_symbol 53 = .ok (.if_icmp .ge 86, 3) := by decide +kernel
theorem d_M_symbol_56 : decode b_M_symbol 56 = .ok (.iload 4, 2) := by decide +kernel
theorem d_M_symbol_58 : decode b_M_symbol 58 = .ok (.ifCond .eq 29, 3) := by decide +kernel
theorem d_M_symbol_61 : decode b_M_symbol 61 = .ok (.aload_n 0, 1) := by decide +kernel
theorem d_M_symbol_62 : decode b_M_symbol 62 = .ok (.iload 5, 2) := by decide +kernel
theorem d_M_symbol_64 : decode b_M_symbol 64 = .ok (.invokevirtual 108, 3) := by decide +kernel
theorem d_M_symbol_67 : decode b_M_symbol 67 = .ok (.bipush 32, 2) := by decide +kernel
theorem d_M_symbol_69 : decode b_M_symbol 69 = .ok (.if_icmp .lt 18, 3) := by decide +kernel
theorem d_M_symbol_72 : decode b_M_symbol 72 = .ok (.aload_n 0, 1) := by decide +kernel
theorem d_M_symbol_73 : decode b_M_symbol 73 = .ok (.iload 5, 2) := by decide +kernel
theorem d_M_symbol_75 : decode b_M_symbol 75 = .ok (.invokevirtual 108, 3) := by decide +kernel
theorem d_M_symbol_78 : decode b_M_symbol 78 = .ok (.bipush 126, 2) := by decide +kernel
theorem d_M_symbol_80 : decode b_M_symbol 80 = .ok (.if_icmp .gt 7, 3) := by decide +kernel
theorem d_M_symbol_83 : decode b_M_symbol 83 = .ok (.iconst 1, 1) := by decide +kernel
theorem d_M_symbol_84 : decode b_M_symbol 84 = .ok (.goto 4, 3) := by decide +kernel
theorem d_M_symbol_87 : decode b_M_symbol 87 = .ok (.iconst 0, 1) := by decide +kernel
theorem d_M_symbol_88 : decode b_M_symbol 88 = .ok (.istore 4, 2) := by decide +kernel
theorem d_M_symbol_90 : decode b_M_symbol 90 = .ok (.iconst 0, 1) := by decide +kernel
theorem d_M_symbol_91 : decode b_M_symbol 91 = .ok (.istore 6, 2) := by decide +kernel
theorem d_M_symbol_93 : decode b_M_symbol 93 = .ok (.iload 6, 2) := by decide +kernel
theorem d_M_symbol_95 : decode b_M_symbol 95 = .ok (.iload 5, 2) := by decide +kernel
theorem d_M_symbol_97 : decode b_M_symbol 97 = .ok (.if_icmp .ge 36, 3) := by decide +kernel
theorem d_M_symbol_100 : decode b_M_symbol 100 = .ok (.iload 4, 2) := by decide +kernel
theorem d_M_symbol_102 : decode b_M_symbol 102 = .ok (.ifCond .eq 22, 3) := by decide +kernel
theorem d_M_symbol_105 : decode b_M_symbol 105 = .ok (.aload_n 0, 1) := by decide +kernel
theorem d_M_symbol_106 : decode b_M_symbol 106 = .ok (.iload 5, 2) := by decide +kernel
theorem d_M_symbol_108 : decode b_M_symbol 108 = .ok (.invokevirtual 108, 3) := by decide +kernel
theorem d_M_symbol_111 : decode b_M_symbol 111 = .ok (.aload_n 0, 1) := by decide +kernel
theorem d_M_symbol_112 : decode b_M_symbol 112 = .ok (.iload 6, 2) := by decide +kernel
theorem d_M_symbol_114 : decode b_M_symbol 114 = .ok (.invokevirtual 108, 3) := by decide +kernel
theorem d_M_symbol_117 : decode b_M_symbol 117 = .ok (.if_icmp .eq 7, 3) := by decide +kernel
theorem d_M_symbol_120 : decode b_M_symbol 120 = .ok (.iconst 1, 1) := by decide +kernel
theorem d_M_symbol_121 : decode b_M_symbol 121 = .ok (.goto 4, 3) := by decide +kernel
theorem d_M_symbol_124 : decode b_M_symbol 124 = .ok (.iconst 0, 1) := by decide +kernel
theorem d_M_symbol_125 : decode b_M_symbol 125 = .ok (.istore 4, 2) := by decide +kernel
theorem d_M_symbol_127 : decode b_M_symbol 127 = .ok (.iinc 6 1, 3) := by decide +kernel
theorem d_M_symbol_130 : decode b_M_symbol 130 = .ok (.goto (-37), 3) := by decide +kernel
theorem d_M_symbol_133 : decode b_M_symbol 133 = .ok (.iinc 5 1, 3) := by decide +kernel
theorem d_M_symbol_136 : decode b_M_symbol 136 = .ok (.goto (-87), 3) := by decide +kernel
theorem d_M_symbol_139 : decode b_M_symbol 139 = .ok (.aload_n 0, 1) := by decide +kernel
theorem d_M_symbol_140 : decode b_M_symbol 140 = .ok (.getfield 34, 3) := by decide +kernel
theorem d_M_symbol_143 : decode b_M_symbol 143 = .ok (.iload_n 1, 1) := by decide +kernel
theorem d_M_symbol_144 : decode b_M_symbol 144 = .ok (.iload 4, 2) := by decide +kernel
theorem d_M_symbol_146 : decode b_M_symbol 146 = .ok (.ifCond .eq 7, 3) := by decide +kernel
theorem d_M_symbol_149 : decode b_M_symbol 149 = .ok (.iload_n 2, 1) := by decide +kernel
theorem d_M_symbol_150 : decode b_M_symbol 150 = .ok (.goto 4, 3) := by decide +kernel
theorem d_M_symbol_153 : decode b_M_symbol 153 = .ok (.iload_n 3, 1) := by decide +kernel
theorem d_M_symbol_154 : decode b_M_symbol 154 = .ok (.iastore, 1) := by decide +kernel
theorem d_M_symbol_155 : decode b_M_symbol 155 = .ok (.iload 4, 2) := by decide +kernel
theorem d_M_symbol_157 : decode b_M_symbol 157 = .ok (.ireturn, 1) := by decide +kernel
theorem d_M_groupFrom_0 : decode b_M_groupFrom 0 = .ok (.iload_n 1, 1) := by decide +kernel
theorem d_M_groupFrom_1 : decode b_M_groupFrom 1 = .ok (.iconst 1, 1) := by decide +kernel
theorem d_M_groupFrom_2 : decode b_M_groupFrom 2 = .ok (.if_icmp .lt 9, 3) := by decide +kernel
theorem d_M_groupFrom_5 : decode b_M_groupFrom 5 = .ok (.iload_n 1, 1) := by decide +kernel
theorem d_M_groupFrom_6 : decode b_M_groupFrom 6 = .ok (.bipush 9, 2) := by decide +kernel
theorem d_M_groupFrom_8 : decode b_M_groupFrom 8 = .ok (.if_icmp .le 5, 3) := by decide +kernel
theorem d_M_groupFrom_11 : decode b_M_groupFrom 11 = .ok (.iconst 0, 1) := by decide +kernel
theorem d_M_groupFrom_12 : decode b_M_groupFrom 12 = .ok (.ireturn, 1) := by decide +kernel
theorem d_M_groupFrom_13 : decode b_M_groupFrom 13 = .ok (.aload_n 0, 1) := by decide +kernel
theorem d_M_groupFrom_14 : decode b_M_groupFrom 14 = .ok (.iload_n 1, 1) := by decide +kernel
theorem d_M_groupFrom_15 : decode b_M_groupFrom 15 = .ok (.putfield 37, 3) := by decide +kernel
theorem d_M_groupFrom_18 : decode b_M_groupFrom 18 = .ok (.iconst 1, 1) := by decide +kernel
theorem d_M_groupFrom_19 : decode b_M_groupFrom 19 = .ok (.ireturn, 1) := by decide +kernel
theorem d_M_percent_0 : decode b_M_percent 0 = .ok (.iconst 0, 1) := by decide +kernel
theorem d_M_percent_1 : decode b_M_percent 1 = .ok (.istore_n 1, 1) := by decide +kernel
theorem d_M_percent_2 : decode b_M_percent 2 = .ok (.iconst 0, 1) := by decide +kernel
theorem d_M_percent_3 : decode b_M_percent 3 = .ok (.istore_n 2, 1) := by decide +kernel
theorem d_M_percent_4 : decode b_M_percent 4 = .ok (.iload_n 2, 1) := by decide +kernel
theorem d_M_percent_5 : decode b_M_percent 5 = .ok (.iconst 2, 1) := by decide +kernel
theorem d_M_percent_6 : decode b_M_percent 6 = .ok (.if_icmp .ge 54, 3) := by decide +kernel
theorem d_M_percent_9 : decode b_M_percent 9 = .ok (.iconst 0, 1) := by decide +kernel
theorem d_M_percent_10 : decode b_M_percent 10 = .ok (.istore_n 3, 1) := by decide +kernel
theorem d_M_percent_11 : decode b_M_percent 11 = .ok (.iload_n 3, 1) := by decide +kernel
theorem d_M_percent_12 : decode b_M_percent 12 = .ok (.aload_n 0, 1) := by decide +kernel
theorem d_M_percent_13 : decode b_M_percent 13 = .ok (.getfield 31, 3) := by decide +kernel
theorem d_M_percent_16 : decode b_M_percent 16 = .ok (.iload_n 2, 1) := by decide +kernel
theorem d_M_percent_17 : decode b_M_percent 17 = .ok (.iaload, 1) := by decide +kernel
theorem d_M_percent_18 : decode b_M_percent 18 = .ok (.if_icmp .ge 36, 3) := by decide +kernel
theorem d_M_percent_21 : decode b_M_percent 21 = .ok (.iload_n 1, 1) := by decide +kernel
theorem d_M_percent_22 : decode b_M_percent 22 = .ok (.ifCond .ne 20, 3) := by decide +kernel
theorem d_M_percent_25 : decode b_M_percent 25 = .ok (.aload_n 0, 1) := by decide +kernel
theorem d_M_percent_26 : decode b_M_percent 26 = .ok (.getfield 28, 3) := by decide +kernel
theorem d_M_percent_29 : decode b_M_percent 29 = .ok (.bipush 40, 2) := by decide +kernel
theorem d_M_percent_31 : decode b_M_percent 31 = .ok (.iload_n 2, 1) := by decide +kernel
theorem d_M_percent_32 : decode b_M_percent 32 = .ok (.imul, 1) := by decide +kernel
theorem d_M_percent_33 : decode b_M_percent 33 = .ok (.iload_n 3, 1) := by decide +kernel
theorem d_M_percent_34 : decode b_M_percent 34 = .ok (.iadd, 1) := by decide +kernel
theorem d_M_percent_35 : decode b_M_percent 35 = .ok (.iaload, 1) := by decide +kernel
theorem d_M_percent_36 : decode b_M_percent 36 = .ok (.sipush 201, 3) := by decide +kernel
theorem d_M_percent_39 : decode b_M_percent 39 = .ok (.if_icmp .ne 7, 3) := by decide +kernel
theorem d_M_percent_42 : decode b_M_percent 42 = .ok (.iconst 1, 1) := by decide +kernel
theorem d_M_percent_43 : decode b_M_percent 43 = .ok (.goto 4, 3) := by decide +kernel
theorem d_M_percent_46 : decode b_M_percent 46 = .ok (.iconst 0, 1) := by decide +kernel
theorem d_M_percent_47 : decode b_M_percent 47 = .ok (.istore_n 1, 1) := by decide +kernel
theorem d_M_percent_48 : decode b_M_percent 48 = .ok (.iinc 3 1, 3) := by decide +kernel
theorem d_M_percent_51 : decode b_M_percent 51 = .ok (.goto (-40), 3) := by decide +kernel
theorem d_M_percent_54 : decode b_M_percent 54 = .ok (.iinc 2 1, 3) := by decide +kernel
theorem d_M_percent_57 : decode b_M_percent 57 = .ok (.goto (-53), 3) := by decide +kernel
theorem d_M_percent_60 : decode b_M_percent 60 = .ok (.iload_n 1, 1) := by decide +kernel
theorem d_M_percent_61 : decode b_M_percent 61 = .ok (.ireturn, 1) := by decide +kernel
theorem d_M_load_0 : decode b_M_load 0 = .ok (.iconst 0, 1) := by decide +kernel
theorem d_M_load_1 : decode b_M_load 1 = .ok (.istore 4, 2) := by decide +kernel
theorem d_M_load_3 : decode b_M_load 3 = .ok (.iload 4, 2) := by decide +kernel
theorem d_M_load_5 : decode b_M_load 5 = .ok (.sipush 128, 3) := by decide +kernel
theorem d_M_load_8 : decode b_M_load 8 = .ok (.if_icmp .ge 17, 3) := by decide +kernel
theorem d_M_load_11 : decode b_M_load 11 = .ok (.aload_n 0, 1) := by decide +kernel
theorem d_M_load_12 : decode b_M_load 12 = .ok (.getfield 41, 3) := by decide +kernel
theorem d_M_load_15 : decode b_M_load 15 = .ok (.iload 4, 2) := by decide +kernel
theorem d_M_load_17 : decode b_M_load 17 = .ok (.iconst 0, 1) := by decide +kernel
theorem d_M_load_18 : decode b_M_load 18 = .ok (.iastore, 1) := by decide +kernel
theorem d_M_load_19 : decode b_M_load 19 = .ok (.iinc 4 1, 3) := by decide +kernel
theorem d_M_load_22 : decode b_M_load 22 = .ok (.goto (-19), 3) := by decide +kernel
theorem d_M_load_25 : decode b_M_load 25 = .ok (.lload_n 1, 1) := by decide +kernel
theorem d_M_load_26 : decode b_M_load 26 = .ok (.lconst 0, 1) := by decide +kernel
theorem d_M_load_27 : decode b_M_load 27 = .ok (.lcmp, 1) := by decide +kernel
theorem d_M_load_28 : decode b_M_load 28 = .ok (.ifCond .le 8, 3) := by decide +kernel
theorem d_M_load_31 : decode b_M_load 31 = .ok (.lload_n 1, 1) := by decide +kernel
theorem d_M_load_32 : decode b_M_load 32 = .ok (.lneg, 1) := by decide +kernel
theorem d_M_load_33 : decode b_M_load 33 = .ok (.goto 4, 3) := by decide +kernel
theorem d_M_load_36 : decode b_M_load 36 = .ok (.lload_n 1, 1) := by decide +kernel
theorem d_M_load_37 : decode b_M_load 37 = .ok (.lstore 4, 2) := by decide +kernel
theorem d_M_load_39 : decode b_M_load 39 = .ok (.aload_n 0, 1) := by decide +kernel
theorem d_M_load_40 : decode b_M_load 40 = .ok (.invokevirtual 112, 3) := by decide +kernel
theorem d_M_load_43 : decode b_M_load 43 = .ok (.ifCond .eq 9, 3) := by decide +kernel
theorem d_M_load_46 : decode b_M_load 46 = .ok (.iconst 2, 1) := by decide +kernel
theorem d_M_load_47 : decode b_M_load 47 = .ok (.iload_n 3, 1) := by decide +kernel
theorem d_M_load_48 : decode b_M_load 48 = .ok (.isub, 1) := by decide +kernel
theorem d_M_load_49 : decode b_M_load 49 = .ok (.goto 5, 3) := by decide +kernel
theorem d_M_load_52 : decode b_M_load 52 = .ok (.iload_n 3, 1) := by decide +kernel
theorem d_M_load_53 : decode b_M_load 53 = .ok (.ineg, 1) := by decide +kernel
theorem d_M_load_54 : decode b_M_load 54 = .ok (.istore 6, 2) := by decide +kernel
theorem d_M_load_56 : decode b_M_load 56 = .ok (.iconst 0, 1) := by decide +kernel
theorem d_M_load_57 : decode b_M_load 57 = .ok (.istore 7, 2) := by decide +kernel
theorem d_M_load_59 : decode b_M_load 59 = .ok (.iload 7, 2) := by decide +kernel
theorem d_M_load_61 : decode b_M_load 61 = .ok (.bipush 20, 2) := by decide +kernel
theorem d_M_load_63 : decode b_M_load 63 = .ok (.if_icmp .ge 38, 3) := by decide +kernel
theorem d_M_load_66 : decode b_M_load 66 = .ok (.aload_n 0, 1) := by decide +kernel
theorem d_M_load_67 : decode b_M_load 67 = .ok (.getfield 41, 3) := by decide +kernel
theorem d_M_load_70 : decode b_M_load 70 = .ok (.bipush 64, 2) := by decide +kernel
theorem d_M_load_72 : decode b_M_load 72 = .ok (.iload 6, 2) := by decide +kernel
theorem d_M_load_74 : decode b_M_load 74 = .ok (.iadd, 1) := by decide +kernel
theorem d_M_load_75 : decode b_M_load 75 = .ok (.iload 7, 2) := by decide +kernel
theorem d_M_load_77 : decode b_M_load 77 = .ok (.iadd, 1) := by decide +kernel
theorem d_M_load_78 : decode b_M_load 78 = .ok (.lload 4, 2) := by decide +kernel
theorem d_M_load_80 : decode b_M_load 80 = .ok (.ldc2_w 115, 3) := by decide +kernel
theorem d_M_load_83 : decode b_M_load 83 = .ok (.lrem, 1) := by decide +kernel
theorem d_M_load_84 : decode b_M_load 84 = .ok (.lneg, 1) := by decide +kernel
theorem d_M_load_85 : decode b_M_load 85 = .ok (.l2i, 1) := by decide +kernel
theorem d_M_load_86 : decode b_M_load 86 = .ok (.iastore, 1) := by decide +kernel
theorem d_M_load_87 : decode b_M_load 87 = .ok (.lload 4, 2) := by decide +kernel
theorem d_M_load_89 : decode b_M_load 89 = .ok (.ldc2_w 115, 3) := by decide +kernel
theorem d_M_load_92 : decode b_M_load 92 = .ok (.ldiv, 1) := by decide +kernel
theorem d_M_load_93 : decode b_M_load 93 = .ok (.lstore 4, 2) := by decide +kernel
theorem d_M_load_95 : decode b_M_load 95 = .ok (.iinc 7 1, 3) := by decide +kernel
theorem d_M_load_98 : decode b_M_load 98 = .ok (.goto (-39), 3) := by decide +kernel
theorem d_M_load_101 : decode b_M_load 101 = .ok (.return_, 1) := by decide +kernel
theorem d_M_digitAt_0 : decode b_M_digitAt 0 = .ok (.iload_n 1, 1) := by decide +kernel
theorem d_M_digitAt_1 : decode b_M_digitAt 1 = .ok (.bipush (-64), 2) := by decide +kernel
theorem d_M_digitAt_3 : decode b_M_digitAt 3 = .ok (.if_icmp .lt 9, 3) := by decide +kernel
theorem d_M_digitAt_6 : decode b_M_digitAt 6 = .ok (.iload_n 1, 1) := by decide +kernel
theorem d_M_digitAt_7 : decode b_M_digitAt 7 = .ok (.bipush 63, 2) := by decide +kernel
theorem d_M_digitAt_9 : decode b_M_digitAt 9 = .ok (.if_icmp .le 7, 3) := by decide +kernel
theorem d_M_digitAt_12 : decode b_M_digitAt 12 = .ok (.iconst 0, 1) := by decide +kernel
theorem d_M_digitAt_13 : decode b_M_digitAt 13 = .ok (.goto 12, 3) := by decide +kernel
theorem d_M_digitAt_16 : decode b_M_digitAt 16 = .ok (.aload_n 0, 1) := by decide +kernel
theorem d_M_digitAt_17 : decode b_M_digitAt 17 = .ok (.getfield 41, 3) := by decide +kernel
theorem d_M_digitAt_20 : decode b_M_digitAt 20 = .ok (.bipush 64, 2) := by decide +kernel
theorem d_M_digitAt_22 : decode b_M_digitAt 22 = .ok (.iload_n 1, 1) := by decide +kernel
theorem d_M_digitAt_23 : decode b_M_digitAt 23 = .ok (.iadd, 1) := by decide +kernel
theorem d_M_digitAt_24 : decode b_M_digitAt 24 = .ok (.iaload, 1) := by decide +kernel
theorem d_M_digitAt_25 : decode b_M_digitAt 25 = .ok (.ireturn, 1) := by decide +kernel
theorem d_M_top_0 : decode b_M_top 0 = .ok (.bipush (-100), 2) := by decide +kernel
theorem d_M_top_2 : decode b_M_top 2 = .ok (.istore_n 1, 1) := by decide +kernel
theorem d_M_top_3 : decode b_M_top 3 = .ok (.bipush (-64), 2) := by decide +kernel
theorem d_M_top_5 : decode b_M_top 5 = .ok (.istore_n 2, 1) := by decide +kernel
theorem d_M_top_6 : decode b_M_top 6 = .ok (.iload_n 2, 1) := by decide +kernel
theorem d_M_top_7 : decode b_M_top 7 = .ok (.bipush 64, 2) := by decide +kernel
theorem d_M_top_9 : decode b_M_top 9 = .ok (.if_icmp .ge 23, 3) := by decide +kernel
theorem d_M_top_12 : decode b_M_top 12 = .ok (.aload_n 0, 1) := by decide +kernel
theorem d_M_top_13 : decode b_M_top 13 = .ok (.iload_n 2, 1) := by decide +kernel
theorem d_M_top_14 : decode b_M_top 14 = .ok (.invokevirtual 117, 3) := by decide +kernel
theorem d_M_top_17 : decode b_M_top 17 = .ok (.ifCond .eq 7, 3) := by decide +kernel
theorem d_M_top_20 : decode b_M_top 20 = .ok (.iload_n 2, 1) := by decide +kernel
theorem d_M_top_21 : decode b_M_top 21 = .ok (.goto 4, 3) := by decide +kernel
theorem d_M_top_24 : decode b_M_top 24 = .ok (.iload_n 1, 1) := by decide +kernel
theorem d_M_top_25 : decode b_M_top 25 = .ok (.istore_n 1, 1) := by decide +kernel
theorem d_M_top_26 : decode b_M_top 26 = .ok (.iinc 2 1, 3) := by decide +kernel
theorem d_M_top_29 : decode b_M_top 29 = .ok (.goto (-23), 3) := by decide +kernel
theorem d_M_top_32 : decode b_M_top 32 = .ok (.iload_n 1, 1) := by decide +kernel
theorem d_M_top_33 : decode b_M_top 33 = .ok (.ireturn, 1) := by decide +kernel
theorem d_M_below_0 : decode b_M_below 0 = .ok (.iconst 0, 1) := by decide +kernel
theorem d_M_below_1 : decode b_M_below 1 = .ok (.istore_n 2, 1) := by decide +kernel
theorem d_M_below_2 : decode b_M_below 2 = .ok (.bipush (-64), 2) := by decide +kernel
theorem d_M_below_4 : decode b_M_below 4 = .ok (.istore_n 3, 1) := by decide +kernel
theorem d_M_below_5 : decode b_M_below 5 = .ok (.iload_n 3, 1) := by decide +kernel
theorem d_M_below_6 : decode b_M_below 6 = .ok (.iload_n 1, 1) := by decide +kernel
theorem d_M_below_7 : decode b_M_below 7 = .ok (.if_icmp .ge 27, 3) := by decide +kernel
theorem d_M_below_10 : decode b_M_below 10 = .ok (.iload_n 2, 1) := by decide +kernel
theorem d_M_below_11 : decode b_M_below 11 = .ok (.ifCond .ne 11, 3) := by decide +kernel
theorem d_M_below_14 : decode b_M_below 14 = .ok (.aload_n 0, 1) := by decide +kernel
theorem d_M_below_15 : decode b_M_below 15 = .ok (.iload_n 3, 1) := by decide +kernel
theorem d_M_below_16 : decode b_M_below 16 = .ok (.invokevirtual 117, 3) := by decide +kernel
theorem d_M_below_19 : decode b_M_below 19 = .ok (.ifCond .eq 7, 3) := by decide +kernel
theorem d_M_below_22 : decode b_M_below 22 = .ok (.iconst 1, 1) := by decide +kernel
theorem d_M_below_23 : decode b_M_below 23 = .ok (.goto 4, 3) := by decide +kernel
theorem d_M_below_26 : decode b_M_below 26 = .ok (.iconst 0, 1) := by decide +kernel
theorem d_M_below_27 : decode b_M_below 27 = .ok (.istore_n 2, 1) := by decide +kernel
theorem d_M_below_28 : decode b_M_below 28 = .ok (.iinc 3 1, 3) := by decide +kernel
theorem d_M_below_31 : decode b_M_below 31 = .ok (.goto (-26), 3) := by decide +kernel
theorem d_M_below_34 : decode b_M_below 34 = .ok (.iload_n 2, 1) := by decide +kernel
theorem d_M_below_35 : decode b_M_below 35 = .ok (.ireturn, 1) := by decide +kernel
theorem d_M_upwards_0 : decode b_M_upwards 0 = .ok (.aload_n 0, 1) := by decide +kernel
theorem d_M_upwards_1 : decode b_M_upwards 1 = .ok (.iload_n 3, 1) := by decide +kernel
theorem d_M_upwards_2 : decode b_M_upwards 2 = .ok (.iconst 1, 1) := by decide +kernel
theorem d_M_upwards_3 : decode b_M_upwards 3 = .ok (.isub, 1) := by decide +kernel
theorem d_M_upwards_4 : decode b_M_upwards 4 = .ok (.invokevirtual 117, 3) := by decide +kernel
theorem d_M_upwards_7 : decode b_M_upwards 7 = .ok (.istore 4, 2) := by decide +kernel
theorem d_M_upwards_9 : decode b_M_upwards 9 = .ok (.aload_n 0, 1) := by decide +kernel
theorem d_M_upwards_10 : decode b_M_upwards 10 = .ok (.iload_n 3, 1) := by decide +kernel
theorem d_M_upwards_11 : decode b_M_upwards 11 = .ok (.iconst 1, 1) := by decide +kernel
theorem d_M_upwards_12 : decode b_M_upwards 12 = .ok (.isub, 1) := by decide +kernel
theorem d_M_upwards_13 : decode b_M_upwards 13 = .ok (.invokevirtual 120, 3) := by decide +kernel
theorem d_M_upwards_16 : decode b_M_upwards 16 = .ok (.istore 5, 2) := by decide +kernel
theorem d_M_upwards_18 : decode b_M_upwards 18 = .ok (.iload_n 1, 1) := by decide +kernel
theorem d_M_upwards_19 : decode b_M_upwards 19 = .ok (.iconst 4, 1) := by decide +kernel
theorem d_M_upwards_20 : decode b_M_upwards 20 = .ok (.if_icmp .ge 31, 3) := by decide +kernel
theorem d_M_upwards_23 : decode b_M_upwards 23 = .ok (.iload_n 1, 1) := by decide +kernel
theorem d_M_upwards_24 : decode b_M_upwards 24 = .ok (.ifCond .eq 21, 3) := by decide +kernel
theorem d_M_upwards_27 : decode b_M_upwards 27 = .ok (.iload_n 1, 1) := by decide +kernel
theorem d_M_upwards_28 : decode b_M_upwards 28 = .ok (.iconst 2, 1) := by decide +kernel
theorem d_M_upwards_29 : decode b_M_upwards 29 = .ok (.if_icmp .ne 7, 3) := by decide +kernel
theorem d_M_upwards_32 : decode b_M_upwards 32 = .ok (.iload_n 2, 1) := by decide +kernel
theorem d_M_upwards_33 : decode b_M_upwards 33 = .ok (.ifCond .eq 12, 3) := by decide +kernel
theorem d_M_upwards_36 : decode b_M_upwards 36 = .ok (.iload_n 1, 1) := by decide +kernel
theorem d_M_upwards_37 : decode b_M_upwards 37 = .ok (.iconst 3, 1) := by decide +kernel
theorem d_M_upwards_38 : decode b_M_upwards 38 = .ok (.if_icmp .ne 11, 3) := by decide +kernel
theorem d_M_upwards_41 : decode b_M_upwards 41 = .ok (.iload_n 2, 1) := by decide +kernel
theorem d_M_upwards_42 : decode b_M_upwards 42 = .ok (.ifCond .eq 7, 3) := by decide +kernel
theorem d_M_upwards_45 : decode b_M_upwards 45 = .ok (.iconst 1, 1) := by decide +kernel
theorem d_M_upwards_46 : decode b_M_upwards 46 = .ok (.goto 4, 3) := by decide +kernel
theorem d_M_upwards_49 : decode b_M_upwards 49 = .ok (.iconst 0, 1) := by decide +kernel
theorem d_M_upwards_50 : decode b_M_upwards 50 = .ok (.ireturn, 1) := by decide +kernel
theorem d_M_upwards_51 : decode b_M_upwards 51 = .ok (.iload 4, 2) := by decide +kernel
theorem d_M_upwards_53 : decode b_M_upwards 53 = .ok (.iconst 5, 1) := by decide +kernel
theorem d_M_upwards_54 : decode b_M_upwards 54 = .ok (.if_icmp .ne 8, 3) := by decide +kernel
theorem d_M_upwards_57 : decode b_M_upwards 57 = .ok (.iload 5, 2) := by decide +kernel
theorem d_M_upwards_59 : decode b_M_upwards 59 = .ok (.ifCond .eq 15, 3) := by decide +kernel
theorem d_M_upwards_62 : decode b_M_upwards 62 = .ok (.iload 4, 2) := by decide +kernel
theorem d_M_upwards_64 : decode b_M_upwards 64 = .ok (.iconst 5, 1) := by decide +kernel
theorem d_M_upwards_65 : decode b_M_upwards 65 = .ok (.if_icmp .lt 7, 3) := by decide +kernel
theorem d_M_upwards_68 : decode b_M_upwards 68 = .ok (.iconst 1, 1) := by decide +kernel
theorem d_M_upwards_69 : decode b_M_upwards 69 = .ok (.goto 4, 3) := by decide +kernel
theorem d_M_upwards_72 : decode b_M_upwards 72 = .ok (.iconst 0, 1) := by decide +kernel
theorem d_M_upwards_73 : decode b_M_upwards 73 = .ok (.ireturn, 1) := by decide +kernel
theorem d_M_upwards_74 : decode b_M_upwards 74 = .ok (.iload_n 1, 1) := by decide +kernel
theorem d_M_upwards_75 : decode b_M_upwards 75 = .ok (.iconst 4, 1) := by decide +kernel
theorem d_M_upwards_76 : decode b_M_upwards 76 = .ok (.if_icmp .eq 20, 3) := by decide +kernel
theorem d_M_upwards_79 : decode b_M_upwards 79 = .ok (.iload_n 1, 1) := by decide +kernel
theorem d_M_upwards_80 : decode b_M_upwards 80 = .ok (.bipush 6, 2) := by decide +kernel
theorem d_M_upwards_82 : decode b_M_upwards 82 = .ok (.if_icmp .ne 18, 3) := by decide +kernel
theorem d_M_upwards_85 : decode b_M_upwards 85 = .ok (.aload_n 0, 1) := by decide +kernel
theorem d_M_upwards_86 : decode b_M_upwards 86 = .ok (.iload_n 3, 1) := by decide +kernel
theorem d_M_upwards_87 : decode b_M_upwards 87 = .ok (.invokevirtual 117, 3) := by decide +kernel
theorem d_M_upwards_90 : decode b_M_upwards 90 = .ok (.iconst 2, 1) := by decide +kernel
theorem d_M_upwards_91 : decode b_M_upwards 91 = .ok (.irem, 1) := by decide +kernel
theorem d_M_upwards_92 : decode b_M_upwards 92 = .ok (.iconst 1, 1) := by decide +kernel
theorem d_M_upwards_93 : decode b_M_upwards 93 = .ok (.if_icmp .ne 7, 3) := by decide +kernel
theorem d_M_upwards_96 : decode b_M_upwards 96 = .ok (.iconst 1, 1) := by decide +kernel
theorem d_M_upwards_97 : decode b_M_upwards 97 = .ok (.goto 4, 3) := by decide +kernel
theorem d_M_upwards_100 : decode b_M_upwards 100 = .ok (.iconst 0, 1) := by decide +kernel
theorem d_M_upwards_101 : decode b_M_upwards 101 = .ok (.ireturn, 1) := by decide +kernel
