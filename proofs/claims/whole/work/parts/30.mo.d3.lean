theorem d_M_render_143 : decode b_M_render 143 = .ok (.iconst 0, 1) := by decide +kernel
theorem d_M_render_144 : decode b_M_render 144 = .ok (.ireturn, 1) := by decide +kernel
theorem d_M_render_145 : decode b_M_render 145 = .ok (.aload_n 0, 1) := by decide +kernel
theorem d_M_render_146 : decode b_M_render 146 = .ok (.iconst 0, 1) := by decide +kernel
theorem d_M_render_147 : decode b_M_render 147 = .ok (.putfield 127, 3) := by decide +kernel
theorem d_M_render_150 : decode b_M_render 150 = .ok (.iload_n 1, 1) := by decide +kernel
theorem d_M_render_151 : decode b_M_render 151 = .ok (.ifCond .eq 20, 3) := by decide +kernel
theorem d_M_render_154 : decode b_M_render 154 = .ok (.aload_n 0, 1) := by decide +kernel
theorem d_M_render_155 : decode b_M_render 155 = .ok (.getfield 104, 3) := by decide +kernel
theorem d_M_render_158 : decode b_M_render 158 = .ok (.ifCond .ne 13, 3) := by decide +kernel
theorem d_M_render_161 : decode b_M_render 161 = .ok (.aload_n 0, 1) := by decide +kernel
theorem d_M_render_162 : decode b_M_render 162 = .ok (.aload_n 0, 1) := by decide +kernel
theorem d_M_render_163 : decode b_M_render 163 = .ok (.getfield 34, 3) := by decide +kernel
theorem d_M_render_166 : decode b_M_render 166 = .ok (.iconst 2, 1) := by decide +kernel
theorem d_M_render_167 : decode b_M_render 167 = .ok (.iaload, 1) := by decide +kernel
theorem d_M_render_168 : decode b_M_render 168 = .ok (.invokevirtual 130, 3) := by decide +kernel
theorem d_M_render_171 : decode b_M_render 171 = .ok (.iload_n 1, 1) := by decide +kernel
theorem d_M_render_172 : decode b_M_render 172 = .ok (.ifCond .eq 14, 3) := by decide +kernel
theorem d_M_render_175 : decode b_M_render 175 = .ok (.aload_n 0, 1) := by decide +kernel
theorem d_M_render_176 : decode b_M_render 176 = .ok (.getfield 104, 3) := by decide +kernel
theorem d_M_render_179 : decode b_M_render 179 = .ok (.ifCond .eq 7, 3) := by decide +kernel
theorem d_M_render_182 : decode b_M_render 182 = .ok (.iconst 2, 1) := by decide +kernel
theorem d_M_render_183 : decode b_M_render 183 = .ok (.goto 4, 3) := by decide +kernel
theorem d_M_render_186 : decode b_M_render 186 = .ok (.iconst 0, 1) := by decide +kernel
theorem d_M_render_187 : decode b_M_render 187 = .ok (.istore 8, 2) := by decide +kernel
theorem d_M_render_189 : decode b_M_render 189 = .ok (.aload_n 0, 1) := by decide +kernel
theorem d_M_render_190 : decode b_M_render 190 = .ok (.iload 8, 2) := by decide +kernel
theorem d_M_render_192 : decode b_M_render 192 = .ok (.invokevirtual 151, 3) := by decide +kernel
theorem d_M_render_195 : decode b_M_render 195 = .ok (.aload_n 0, 1) := by decide +kernel
theorem d_M_render_196 : decode b_M_render 196 = .ok (.iload 6, 2) := by decide +kernel
theorem d_M_render_198 : decode b_M_render 198 = .ok (.invokevirtual 154, 3) := by decide +kernel
theorem d_M_render_201 : decode b_M_render 201 = .ok (.aload_n 0, 1) := by decide +kernel
theorem d_M_render_202 : decode b_M_render 202 = .ok (.getfield 19, 3) := by decide +kernel
theorem d_M_render_205 : decode b_M_render 205 = .ok (.iconst 4, 1) := by decide +kernel
theorem d_M_render_206 : decode b_M_render 206 = .ok (.iaload, 1) := by decide +kernel
theorem d_M_render_207 : decode b_M_render 207 = .ok (.ifCond .le 9, 3) := by decide +kernel
theorem d_M_render_210 : decode b_M_render 210 = .ok (.aload_n 0, 1) := by decide +kernel
theorem d_M_render_211 : decode b_M_render 211 = .ok (.iload 6, 2) := by decide +kernel
theorem d_M_render_213 : decode b_M_render 213 = .ok (.invokevirtual 157, 3) := by decide +kernel
theorem d_M_render_216 : decode b_M_render 216 = .ok (.aload_n 0, 1) := by decide +kernel
theorem d_M_render_217 : decode b_M_render 217 = .ok (.iload 8, 2) := by decide +kernel
theorem d_M_render_219 : decode b_M_render 219 = .ok (.iconst 1, 1) := by decide +kernel
theorem d_M_render_220 : decode b_M_render 220 = .ok (.iadd, 1) := by decide +kernel
theorem d_M_render_221 : decode b_M_render 221 = .ok (.invokevirtual 151, 3) := by decide +kernel
theorem d_M_render_224 : decode b_M_render 224 = .ok (.iconst 1, 1) := by decide +kernel
theorem d_M_render_225 : decode b_M_render 225 = .ok (.ireturn, 1) := by decide +kernel
theorem d_M_write_0 : decode b_M_write 0 = .ok (.iload_n 3, 1) := by decide +kernel
theorem d_M_write_1 : decode b_M_write 1 = .ok (.ifCond .lt 21, 3) := by decide +kernel
theorem d_M_write_4 : decode b_M_write 4 = .ok (.iload_n 3, 1) := by decide +kernel
theorem d_M_write_5 : decode b_M_write 5 = .ok (.bipush 18, 2) := by decide +kernel
theorem d_M_write_7 : decode b_M_write 7 = .ok (.if_icmp .gt 15, 3) := by decide +kernel
theorem d_M_write_10 : decode b_M_write 10 = .ok (.iload 4, 2) := by decide +kernel
theorem d_M_write_12 : decode b_M_write 12 = .ok (.ifCond .lt 10, 3) := by decide +kernel
theorem d_M_write_15 : decode b_M_write 15 = .ok (.iload 4, 2) := by decide +kernel
theorem d_M_write_17 : decode b_M_write 17 = .ok (.bipush 7, 2) := by decide +kernel
theorem d_M_write_19 : decode b_M_write 19 = .ok (.if_icmp .le 5, 3) := by decide +kernel
theorem d_M_write_22 : decode b_M_write 22 = .ok (.iconst (-1), 1) := by decide +kernel
theorem d_M_write_23 : decode b_M_write 23 = .ok (.ireturn, 1) := by decide +kernel
theorem d_M_write_24 : decode b_M_write 24 = .ok (.aload_n 0, 1) := by decide +kernel
theorem d_M_write_25 : decode b_M_write 25 = .ok (.lload_n 1, 1) := by decide +kernel
theorem d_M_write_26 : decode b_M_write 26 = .ok (.lconst 0, 1) := by decide +kernel
theorem d_M_write_27 : decode b_M_write 27 = .ok (.lcmp, 1) := by decide +kernel
theorem d_M_write_28 : decode b_M_write 28 = .ok (.ifCond .ge 7, 3) := by decide +kernel
theorem d_M_write_31 : decode b_M_write 31 = .ok (.iconst 1, 1) := by decide +kernel
theorem d_M_write_32 : decode b_M_write 32 = .ok (.goto 4, 3) := by decide +kernel
theorem d_M_write_35 : decode b_M_write 35 = .ok (.iconst 0, 1) := by decide +kernel
theorem d_M_write_36 : decode b_M_write 36 = .ok (.lload_n 1, 1) := by decide +kernel
theorem d_M_write_37 : decode b_M_write 37 = .ok (.iload_n 3, 1) := by decide +kernel
theorem d_M_write_38 : decode b_M_write 38 = .ok (.iload 4, 2) := by decide +kernel
theorem d_M_write_40 : decode b_M_write 40 = .ok (.invokevirtual 160, 3) := by decide +kernel
theorem d_M_write_43 : decode b_M_write 43 = .ok (.ifCond .ne 6, 3) := by decide +kernel
theorem d_M_write_46 : decode b_M_write 46 = .ok (.bipush (-2), 2) := by decide +kernel
theorem d_M_write_48 : decode b_M_write 48 = .ok (.ireturn, 1) := by decide +kernel
theorem d_M_write_49 : decode b_M_write 49 = .ok (.iconst 0, 1) := by decide +kernel
theorem d_M_write_50 : decode b_M_write 50 = .ok (.istore 5, 2) := by decide +kernel
theorem d_M_write_52 : decode b_M_write 52 = .ok (.iload 5, 2) := by decide +kernel
theorem d_M_write_54 : decode b_M_write 54 = .ok (.aload_n 0, 1) := by decide +kernel
theorem d_M_write_55 : decode b_M_write 55 = .ok (.getfield 127, 3) := by decide +kernel
theorem d_M_write_58 : decode b_M_write 58 = .ok (.if_icmp .ge 23, 3) := by decide +kernel
theorem d_M_write_61 : decode b_M_write 61 = .ok (.aload_n 0, 1) := by decide +kernel
theorem d_M_write_62 : decode b_M_write 62 = .ok (.getfield 47, 3) := by decide +kernel
theorem d_M_write_65 : decode b_M_write 65 = .ok (.iload 5, 2) := by decide +kernel
theorem d_M_write_67 : decode b_M_write 67 = .ok (.aload_n 0, 1) := by decide +kernel
theorem d_M_write_68 : decode b_M_write 68 = .ok (.getfield 44, 3) := by decide +kernel
theorem d_M_write_71 : decode b_M_write 71 = .ok (.iload 5, 2) := by decide +kernel
theorem d_M_write_73 : decode b_M_write 73 = .ok (.iaload, 1) := by decide +kernel
theorem d_M_write_74 : decode b_M_write 74 = .ok (.iastore, 1) := by decide +kernel
theorem d_M_write_75 : decode b_M_write 75 = .ok (.iinc 5 1, 3) := by decide +kernel
theorem d_M_write_78 : decode b_M_write 78 = .ok (.goto (-26), 3) := by decide +kernel
theorem d_M_write_81 : decode b_M_write 81 = .ok (.aload_n 0, 1) := by decide +kernel
theorem d_M_write_82 : decode b_M_write 82 = .ok (.aload_n 0, 1) := by decide +kernel
theorem d_M_write_83 : decode b_M_write 83 = .ok (.getfield 127, 3) := by decide +kernel
theorem d_M_write_86 : decode b_M_write 86 = .ok (.putfield 164, 3) := by decide +kernel
theorem d_M_write_89 : decode b_M_write 89 = .ok (.aload_n 0, 1) := by decide +kernel
theorem d_M_write_90 : decode b_M_write 90 = .ok (.getfield 164, 3) := by decide +kernel
theorem d_M_write_93 : decode b_M_write 93 = .ok (.ireturn, 1) := by decide +kernel
theorem d_M_type_0 : decode b_M_type 0 = .ok (.iload_n 1, 1) := by decide +kernel
theorem d_M_type_1 : decode b_M_type 1 = .ok (.bipush 32, 2) := by decide +kernel
theorem d_M_type_3 : decode b_M_type 3 = .ok (.if_icmp .lt 18, 3) := by decide +kernel
theorem d_M_type_6 : decode b_M_type 6 = .ok (.iload_n 1, 1) := by decide +kernel
theorem d_M_type_7 : decode b_M_type 7 = .ok (.bipush 126, 2) := by decide +kernel
theorem d_M_type_9 : decode b_M_type 9 = .ok (.if_icmp .gt 12, 3) := by decide +kernel
theorem d_M_type_12 : decode b_M_type 12 = .ok (.aload_n 0, 1) := by decide +kernel
theorem d_M_type_13 : decode b_M_type 13 = .ok (.getfield 164, 3) := by decide +kernel
theorem d_M_type_16 : decode b_M_type 16 = .ok (.bipush 100, 2) := by decide +kernel
theorem d_M_type_18 : decode b_M_type 18 = .ok (.if_icmp .lt 5, 3) := by decide +kernel
theorem d_M_type_21 : decode b_M_type 21 = .ok (.iconst 0, 1) := by decide +kernel
theorem d_M_type_22 : decode b_M_type 22 = .ok (.ireturn, 1) := by decide +kernel
theorem d_M_type_23 : decode b_M_type 23 = .ok (.aload_n 0, 1) := by decide +kernel
theorem d_M_type_24 : decode b_M_type 24 = .ok (.getfield 47, 3) := by decide +kernel
theorem d_M_type_27 : decode b_M_type 27 = .ok (.aload_n 0, 1) := by decide +kernel
theorem d_M_type_28 : decode b_M_type 28 = .ok (.getfield 164, 3) := by decide +kernel
theorem d_M_type_31 : decode b_M_type 31 = .ok (.iload_n 1, 1) := by decide +kernel
theorem d_M_type_32 : decode b_M_type 32 = .ok (.iastore, 1) := by decide +kernel
theorem d_M_type_33 : decode b_M_type 33 = .ok (.aload_n 0, 1) := by decide +kernel
theorem d_M_type_34 : decode b_M_type 34 = .ok (.dup, 1) := by decide +kernel
theorem d_M_type_35 : decode b_M_type 35 = .ok (.getfield 164, 3) := by decide +kernel
theorem d_M_type_38 : decode b_M_type 38 = .ok (.iconst 1, 1) := by decide +kernel
theorem d_M_type_39 : decode b_M_type 39 = .ok (.iadd, 1) := by decide +kernel
theorem d_M_type_40 : decode b_M_type 40 = .ok (.putfield 164, 3) := by decide +kernel
theorem d_M_type_43 : decode b_M_type 43 = .ok (.iconst 1, 1) := by decide +kernel
theorem d_M_type_44 : decode b_M_type 44 = .ok (.ireturn, 1) := by decide +kernel
theorem d_M_wipe_0 : decode b_M_wipe 0 = .ok (.aload_n 0, 1) := by decide +kernel
theorem d_M_wipe_1 : decode b_M_wipe 1 = .ok (.iconst 0, 1) := by decide +kernel
theorem d_M_wipe_2 : decode b_M_wipe 2 = .ok (.putfield 164, 3) := by decide +kernel
theorem d_M_wipe_5 : decode b_M_wipe 5 = .ok (.return_, 1) := by decide +kernel
theorem d_M_length_0 : decode b_M_length 0 = .ok (.aload_n 0, 1) := by decide +kernel
theorem d_M_length_1 : decode b_M_length 1 = .ok (.getfield 164, 3) := by decide +kernel
theorem d_M_length_4 : decode b_M_length 4 = .ok (.ireturn, 1) := by decide +kernel
theorem d_M_at_0 : decode b_M_at 0 = .ok (.iload_n 1, 1) := by decide +kernel
theorem d_M_at_1 : decode b_M_at 1 = .ok (.ifCond .lt 11, 3) := by decide +kernel
theorem d_M_at_4 : decode b_M_at 4 = .ok (.iload_n 1, 1) := by decide +kernel
theorem d_M_at_5 : decode b_M_at 5 = .ok (.aload_n 0, 1) := by decide +kernel
theorem d_M_at_6 : decode b_M_at 6 = .ok (.getfield 164, 3) := by decide +kernel
theorem d_M_at_9 : decode b_M_at 9 = .ok (.if_icmp .lt 7, 3) := by decide +kernel
theorem d_M_at_12 : decode b_M_at 12 = .ok (.iconst (-1), 1) := by decide +kernel
theorem d_M_at_13 : decode b_M_at 13 = .ok (.goto 9, 3) := by decide +kernel
theorem d_M_at_16 : decode b_M_at 16 = .ok (.aload_n 0, 1) := by decide +kernel
theorem d_M_at_17 : decode b_M_at 17 = .ok (.getfield 47, 3) := by decide +kernel
theorem d_M_at_20 : decode b_M_at 20 = .ok (.iload_n 1, 1) := by decide +kernel
theorem d_M_at_21 : decode b_M_at 21 = .ok (.iaload, 1) := by decide +kernel
theorem d_M_at_22 : decode b_M_at 22 = .ok (.ireturn, 1) := by decide +kernel
theorem d_M_beginning_0 : decode b_M_beginning 0 = .ok (.iload_n 1, 1) := by decide +kernel
theorem d_M_beginning_1 : decode b_M_beginning 1 = .ok (.ifCond .eq 30, 3) := by decide +kernel
theorem d_M_beginning_4 : decode b_M_beginning 4 = .ok (.aload_n 0, 1) := by decide +kernel
theorem d_M_beginning_5 : decode b_M_beginning 5 = .ok (.getfield 104, 3) := by decide +kernel
theorem d_M_beginning_8 : decode b_M_beginning 8 = .ok (.ifCond .eq 12, 3) := by decide +kernel
theorem d_M_beginning_11 : decode b_M_beginning 11 = .ok (.aload_n 0, 1) := by decide +kernel
theorem d_M_beginning_12 : decode b_M_beginning 12 = .ok (.getfield 31, 3) := by decide +kernel
theorem d_M_beginning_15 : decode b_M_beginning 15 = .ok (.iconst 2, 1) := by decide +kernel
theorem d_M_beginning_16 : decode b_M_beginning 16 = .ok (.iaload, 1) := by decide +kernel
theorem d_M_beginning_17 : decode b_M_beginning 17 = .ok (.goto 20, 3) := by decide +kernel
theorem d_M_beginning_20 : decode b_M_beginning 20 = .ok (.aload_n 0, 1) := by decide +kernel
theorem d_M_beginning_21 : decode b_M_beginning 21 = .ok (.getfield 31, 3) := by decide +kernel
theorem d_M_beginning_24 : decode b_M_beginning 24 = .ok (.iconst 0, 1) := by decide +kernel
theorem d_M_beginning_25 : decode b_M_beginning 25 = .ok (.iaload, 1) := by decide +kernel
theorem d_M_beginning_26 : decode b_M_beginning 26 = .ok (.iconst 1, 1) := by decide +kernel
theorem d_M_beginning_27 : decode b_M_beginning 27 = .ok (.iadd, 1) := by decide +kernel
theorem d_M_beginning_28 : decode b_M_beginning 28 = .ok (.goto 9, 3) := by decide +kernel
theorem d_M_beginning_31 : decode b_M_beginning 31 = .ok (.aload_n 0, 1) := by decide +kernel
theorem d_M_beginning_32 : decode b_M_beginning 32 = .ok (.getfield 31, 3) := by decide +kernel
theorem d_M_beginning_35 : decode b_M_beginning 35 = .ok (.iconst 0, 1) := by decide +kernel
theorem d_M_beginning_36 : decode b_M_beginning 36 = .ok (.iaload, 1) := by decide +kernel
theorem d_M_beginning_37 : decode b_M_beginning 37 = .ok (.ireturn, 1) := by decide +kernel
theorem d_M_push_0 : decode b_M_push 0 = .ok (.iconst 0, 1) := by decide +kernel
theorem d_M_push_1 : decode b_M_push 1 = .ok (.istore_n 3, 1) := by decide +kernel
theorem d_M_push_2 : decode b_M_push 2 = .ok (.iload_n 3, 1) := by decide +kernel
theorem d_M_push_3 : decode b_M_push 3 = .ok (.iload_n 1, 1) := by decide +kernel
theorem d_M_push_4 : decode b_M_push 4 = .ok (.if_icmp .gt 43, 3) := by decide +kernel
theorem d_M_push_7 : decode b_M_push 7 = .ok (.aload_n 0, 1) := by decide +kernel
theorem d_M_push_8 : decode b_M_push 8 = .ok (.getfield 167, 3) := by decide +kernel
theorem d_M_push_11 : decode b_M_push 11 = .ok (.lconst 0, 1) := by decide +kernel
theorem d_M_push_12 : decode b_M_push 12 = .ok (.lcmp, 1) := by decide +kernel
theorem d_M_push_13 : decode b_M_push 13 = .ok (.ifCond .le 34, 3) := by decide +kernel
theorem d_M_push_16 : decode b_M_push 16 = .ok (.aload_n 0, 1) := by decide +kernel
theorem d_M_push_17 : decode b_M_push 17 = .ok (.getfield 167, 3) := by decide +kernel
theorem d_M_push_20 : decode b_M_push 20 = .ok (.ldc2_w 177, 3) := by decide +kernel
theorem d_M_push_23 : decode b_M_push 23 = .ok (.lcmp, 1) := by decide +kernel
theorem d_M_push_24 : decode b_M_push 24 = .ok (.ifCond .le 5, 3) := by decide +kernel
theorem d_M_push_27 : decode b_M_push 27 = .ok (.iconst 0, 1) := by decide +kernel
theorem d_M_push_28 : decode b_M_push 28 = .ok (.ireturn, 1) := by decide +kernel
theorem d_M_push_29 : decode b_M_push 29 = .ok (.aload_n 0, 1) := by decide +kernel
theorem d_M_push_30 : decode b_M_push 30 = .ok (.aload_n 0, 1) := by decide +kernel
theorem d_M_push_31 : decode b_M_push 31 = .ok (.getfield 167, 3) := by decide +kernel
theorem d_M_push_34 : decode b_M_push 34 = .ok (.ldc2_w 115, 3) := by decide +kernel
theorem d_M_push_37 : decode b_M_push 37 = .ok (.lmul, 1) := by decide +kernel
theorem d_M_push_38 : decode b_M_push 38 = .ok (.putfield 167, 3) := by decide +kernel
theorem d_M_push_41 : decode b_M_push 41 = .ok (.iinc 3 1, 3) := by decide +kernel
theorem d_M_push_44 : decode b_M_push 44 = .ok (.goto (-42), 3) := by decide +kernel
theorem d_M_push_47 : decode b_M_push 47 = .ok (.aload_n 0, 1) := by decide +kernel
theorem d_M_push_48 : decode b_M_push 48 = .ok (.dup, 1) := by decide +kernel
theorem d_M_push_49 : decode b_M_push 49 = .ok (.getfield 167, 3) := by decide +kernel
theorem d_M_push_52 : decode b_M_push 52 = .ok (.iload_n 2, 1) := by decide +kernel
theorem d_M_push_53 : decode b_M_push 53 = .ok (.i2l, 1) := by decide +kernel
theorem d_M_push_54 : decode b_M_push 54 = .ok (.ladd, 1) := by decide +kernel
theorem d_M_push_55 : decode b_M_push 55 = .ok (.putfield 167, 3) := by decide +kernel
theorem d_M_push_58 : decode b_M_push 58 = .ok (.aload_n 0, 1) := by decide +kernel
theorem d_M_push_59 : decode b_M_push 59 = .ok (.getfield 167, 3) := by decide +kernel
theorem d_M_push_62 : decode b_M_push 62 = .ok (.lconst 0, 1) := by decide +kernel
theorem d_M_push_63 : decode b_M_push 63 = .ok (.lcmp, 1) := by decide +kernel
theorem d_M_push_64 : decode b_M_push 64 = .ok (.ifCond .le 7, 3) := by decide +kernel
theorem d_M_push_67 : decode b_M_push 67 = .ok (.iconst 1, 1) := by decide +kernel
theorem d_M_push_68 : decode b_M_push 68 = .ok (.goto 4, 3) := by decide +kernel
theorem d_M_push_71 : decode b_M_push 71 = .ok (.iconst 0, 1) := by decide +kernel
theorem d_M_push_72 : decode b_M_push 72 = .ok (.ireturn, 1) := by decide +kernel
theorem d_M_loose_0 : decode b_M_loose 0 = .ok (.aload_n 0, 1) := by decide +kernel
theorem d_M_loose_1 : decode b_M_loose 1 = .ok (.lconst 0, 1) := by decide +kernel
theorem d_M_loose_2 : decode b_M_loose 2 = .ok (.putfield 167, 3) := by decide +kernel
theorem d_M_loose_5 : decode b_M_loose 5 = .ok (.iconst 0, 1) := by decide +kernel
theorem d_M_loose_6 : decode b_M_loose 6 = .ok (.istore_n 3, 1) := by decide +kernel
theorem d_M_loose_7 : decode b_M_loose 7 = .ok (.iconst 0, 1) := by decide +kernel
theorem d_M_loose_8 : decode b_M_loose 8 = .ok (.istore 4, 2) := by decide +kernel
theorem d_M_loose_10 : decode b_M_loose 10 = .ok (.iconst 0, 1) := by decide +kernel
theorem d_M_loose_11 : decode b_M_loose 11 = .ok (.istore 5, 2) := by decide +kernel
theorem d_M_loose_13 : decode b_M_loose 13 = .ok (.iconst 0, 1) := by decide +kernel
theorem d_M_loose_14 : decode b_M_loose 14 = .ok (.istore 6, 2) := by decide +kernel
theorem d_M_loose_16 : decode b_M_loose 16 = .ok (.iconst 0, 1) := by decide +kernel
theorem d_M_loose_17 : decode b_M_loose 17 = .ok (.istore 7, 2) := by decide +kernel
theorem d_M_loose_19 : decode b_M_loose 19 = .ok (.iconst 0, 1) := by decide +kernel
theorem d_M_loose_20 : decode b_M_loose 20 = .ok (.istore 8, 2) := by decide +kernel
theorem d_M_loose_22 : decode b_M_loose 22 = .ok (.iconst 1, 1) := by decide +kernel
theorem d_M_loose_23 : decode b_M_loose 23 = .ok (.istore 9, 2) := by decide +kernel
theorem d_M_loose_25 : decode b_M_loose 25 = .ok (.iload_n 1, 1) := by decide +kernel
theorem d_M_loose_26 : decode b_M_loose 26 = .ok (.istore 10, 2) := by decide +kernel
theorem d_M_loose_28 : decode b_M_loose 28 = .ok (.iload 10, 2) := by decide +kernel
theorem d_M_loose_30 : decode b_M_loose 30 = .ok (.iload_n 2, 1) := by decide +kernel
theorem d_M_loose_31 : decode b_M_loose 31 = .ok (.if_icmp .ge 263, 3) := by decide +kernel
theorem d_M_loose_34 : decode b_M_loose 34 = .ok (.iload 9, 2) := by decide +kernel
theorem d_M_loose_36 : decode b_M_loose 36 = .ok (.ifCond .eq 258, 3) := by decide +kernel
theorem d_M_loose_39 : decode b_M_loose 39 = .ok (.aload_n 0, 1) := by decide +kernel
theorem d_M_loose_40 : decode b_M_loose 40 = .ok (.getfield 47, 3) := by decide +kernel
theorem d_M_loose_43 : decode b_M_loose 43 = .ok (.iload 10, 2) := by decide +kernel
theorem d_M_loose_45 : decode b_M_loose 45 = .ok (.iaload, 1) := by decide +kernel
theorem d_M_loose_46 : decode b_M_loose 46 = .ok (.istore 11, 2) := by decide +kernel
theorem d_M_loose_48 : decode b_M_loose 48 = .ok (.iload 11, 2) := by decide +kernel
theorem d_M_loose_50 : decode b_M_loose 50 = .ok (.aload_n 0, 1) := by decide +kernel
theorem d_M_loose_51 : decode b_M_loose 51 = .ok (.getfield 34, 3) := by decide +kernel
theorem d_M_loose_54 : decode b_M_loose 54 = .ok (.iconst 5, 1) := by decide +kernel
theorem d_M_loose_55 : decode b_M_loose 55 = .ok (.iaload, 1) := by decide +kernel
theorem d_M_loose_56 : decode b_M_loose 56 = .ok (.isub, 1) := by decide +kernel
theorem d_M_loose_57 : decode b_M_loose 57 = .ok (.istore 12, 2) := by decide +kernel
theorem d_M_loose_59 : decode b_M_loose 59 = .ok (.iload 12, 2) := by decide +kernel
theorem d_M_loose_61 : decode b_M_loose 61 = .ok (.ifCond .lt 10, 3) := by decide +kernel
theorem d_M_loose_64 : decode b_M_loose 64 = .ok (.iload 12, 2) := by decide +kernel
theorem d_M_loose_66 : decode b_M_loose 66 = .ok (.bipush 9, 2) := by decide +kernel
theorem d_M_loose_68 : decode b_M_loose 68 = .ok (.if_icmp .le 138, 3) := by decide +kernel
theorem d_M_loose_71 : decode b_M_loose 71 = .ok (.iload 11, 2) := by decide +kernel
theorem d_M_loose_73 : decode b_M_loose 73 = .ok (.aload_n 0, 1) := by decide +kernel
theorem d_M_loose_74 : decode b_M_loose 74 = .ok (.getfield 34, 3) := by decide +kernel
theorem d_M_loose_77 : decode b_M_loose 77 = .ok (.iconst 0, 1) := by decide +kernel
theorem d_M_loose_78 : decode b_M_loose 78 = .ok (.iaload, 1) := by decide +kernel
theorem d_M_loose_79 : decode b_M_loose 79 = .ok (.if_icmp .eq 48, 3) := by decide +kernel
theorem d_M_loose_82 : decode b_M_loose 82 = .ok (.iload 11, 2) := by decide +kernel
theorem d_M_loose_84 : decode b_M_loose 84 = .ok (.aload_n 0, 1) := by decide +kernel
theorem d_M_loose_85 : decode b_M_loose 85 = .ok (.getfield 34, 3) := by decide +kernel
theorem d_M_loose_88 : decode b_M_loose 88 = .ok (.iconst 1, 1) := by decide +kernel
theorem d_M_loose_89 : decode b_M_loose 89 = .ok (.iaload, 1) := by decide +kernel
theorem d_M_loose_90 : decode b_M_loose 90 = .ok (.if_icmp .eq 37, 3) := by decide +kernel
theorem d_M_loose_93 : decode b_M_loose 93 = .ok (.iload 11, 2) := by decide +kernel
theorem d_M_loose_95 : decode b_M_loose 95 = .ok (.aload_n 0, 1) := by decide +kernel
theorem d_M_loose_96 : decode b_M_loose 96 = .ok (.getfield 34, 3) := by decide +kernel
theorem d_M_loose_99 : decode b_M_loose 99 = .ok (.iconst 4, 1) := by decide +kernel
theorem d_M_loose_100 : decode b_M_loose 100 = .ok (.iaload, 1) := by decide +kernel
theorem d_M_loose_101 : decode b_M_loose 101 = .ok (.if_icmp .eq 26, 3) := by decide +kernel
theorem d_M_loose_104 : decode b_M_loose 104 = .ok (.iload 7, 2) := by decide +kernel
theorem d_M_loose_106 : decode b_M_loose 106 = .ok (.ifCond .eq 25, 3) := by decide +kernel
theorem d_M_loose_109 : decode b_M_loose 109 = .ok (.iload 11, 2) := by decide +kernel
theorem d_M_loose_111 : decode b_M_loose 111 = .ok (.aload_n 0, 1) := by decide +kernel
theorem d_M_loose_112 : decode b_M_loose 112 = .ok (.getfield 34, 3) := by decide +kernel
theorem d_M_loose_115 : decode b_M_loose 115 = .ok (.iconst 2, 1) := by decide +kernel
theorem d_M_loose_116 : decode b_M_loose 116 = .ok (.iaload, 1) := by decide +kernel
theorem d_M_loose_117 : decode b_M_loose 117 = .ok (.if_icmp .eq 10, 3) := by decide +kernel
theorem d_M_loose_120 : decode b_M_loose 120 = .ok (.iload 11, 2) := by decide +kernel
theorem d_M_loose_122 : decode b_M_loose 122 = .ok (.bipush 43, 2) := by decide +kernel
theorem d_M_loose_124 : decode b_M_loose 124 = .ok (.if_icmp .ne 7, 3) := by decide +kernel
theorem d_M_loose_127 : decode b_M_loose 127 = .ok (.iconst 1, 1) := by decide +kernel
theorem d_M_loose_128 : decode b_M_loose 128 = .ok (.goto 4, 3) := by decide +kernel
theorem d_M_loose_131 : decode b_M_loose 131 = .ok (.iconst 0, 1) := by decide +kernel
theorem d_M_loose_132 : decode b_M_loose 132 = .ok (.istore 9, 2) := by decide +kernel
theorem d_M_loose_134 : decode b_M_loose 134 = .ok (.iload 6, 2) := by decide +kernel
theorem d_M_loose_136 : decode b_M_loose 136 = .ok (.ifCond .ne 14, 3) := by decide +kernel
theorem d_M_loose_139 : decode b_M_loose 139 = .ok (.iload 11, 2) := by decide +kernel
theorem d_M_loose_141 : decode b_M_loose 141 = .ok (.aload_n 0, 1) := by decide +kernel
theorem d_M_loose_142 : decode b_M_loose 142 = .ok (.getfield 34, 3) := by decide +kernel
theorem d_M_loose_145 : decode b_M_loose 145 = .ok (.iconst 0, 1) := by decide +kernel
theorem d_M_loose_146 : decode b_M_loose 146 = .ok (.iaload, 1) := by decide +kernel
theorem d_M_loose_147 : decode b_M_loose 147 = .ok (.if_icmp .ne 7, 3) := by decide +kernel
theorem d_M_loose_150 : decode b_M_loose 150 = .ok (.iconst 1, 1) := by decide +kernel
theorem d_M_loose_151 : decode b_M_loose 151 = .ok (.goto 4, 3) := by decide +kernel
theorem d_M_loose_154 : decode b_M_loose 154 = .ok (.iconst 0, 1) := by decide +kernel
theorem d_M_loose_155 : decode b_M_loose 155 = .ok (.istore 6, 2) := by decide +kernel
theorem d_M_loose_157 : decode b_M_loose 157 = .ok (.iload 7, 2) := by decide +kernel
theorem d_M_loose_159 : decode b_M_loose 159 = .ok (.ifCond .ne 14, 3) := by decide +kernel
theorem d_M_loose_162 : decode b_M_loose 162 = .ok (.iload 11, 2) := by decide +kernel
theorem d_M_loose_164 : decode b_M_loose 164 = .ok (.aload_n 0, 1) := by decide +kernel
theorem d_M_loose_165 : decode b_M_loose 165 = .ok (.getfield 34, 3) := by decide +kernel
theorem d_M_loose_168 : decode b_M_loose 168 = .ok (.iconst 4, 1) := by decide +kernel
theorem d_M_loose_169 : decode b_M_loose 169 = .ok (.iaload, 1) := by decide +kernel
theorem d_M_loose_170 : decode b_M_loose 170 = .ok (.if_icmp .ne 7, 3) := by decide +kernel
theorem d_M_loose_173 : decode b_M_loose 173 = .ok (.iconst 1, 1) := by decide +kernel
theorem d_M_loose_174 : decode b_M_loose 174 = .ok (.goto 4, 3) := by decide +kernel
theorem d_M_loose_177 : decode b_M_loose 177 = .ok (.iconst 0, 1) := by decide +kernel
theorem d_M_loose_178 : decode b_M_loose 178 = .ok (.istore 7, 2) := by decide +kernel
theorem d_M_loose_180 : decode b_M_loose 180 = .ok (.iload 8, 2) := by decide +kernel
theorem d_M_loose_182 : decode b_M_loose 182 = .ok (.ifCond .ne 14, 3) := by decide +kernel
theorem d_M_loose_185 : decode b_M_loose 185 = .ok (.iload 11, 2) := by decide +kernel
theorem d_M_loose_187 : decode b_M_loose 187 = .ok (.aload_n 0, 1) := by decide +kernel
theorem d_M_loose_188 : decode b_M_loose 188 = .ok (.getfield 34, 3) := by decide +kernel
theorem d_M_loose_191 : decode b_M_loose 191 = .ok (.iconst 2, 1) := by decide +kernel
theorem d_M_loose_192 : decode b_M_loose 192 = .ok (.iaload, 1) := by decide +kernel
theorem d_M_loose_193 : decode b_M_loose 193 = .ok (.if_icmp .ne 7, 3) := by decide +kernel
theorem d_M_loose_196 : decode b_M_loose 196 = .ok (.iconst 1, 1) := by decide +kernel
theorem d_M_loose_197 : decode b_M_loose 197 = .ok (.goto 4, 3) := by decide +kernel
theorem d_M_loose_200 : decode b_M_loose 200 = .ok (.iconst 0, 1) := by decide +kernel
theorem d_M_loose_201 : decode b_M_loose 201 = .ok (.istore 8, 2) := by decide +kernel
theorem d_M_loose_203 : decode b_M_loose 203 = .ok (.goto 85, 3) := by decide +kernel
theorem d_M_loose_206 : decode b_M_loose 206 = .ok (.iload 7, 2) := by decide +kernel
theorem d_M_loose_208 : decode b_M_loose 208 = .ok (.ifCond .eq 29, 3) := by decide +kernel
theorem d_M_loose_211 : decode b_M_loose 211 = .ok (.iload 4, 2) := by decide +kernel
theorem d_M_loose_213 : decode b_M_loose 213 = .ok (.sipush 1000, 3) := by decide +kernel
theorem d_M_loose_216 : decode b_M_loose 216 = .ok (.if_icmp .le 8, 3) := by decide +kernel
theorem d_M_loose_219 : decode b_M_loose 219 = .ok (.iload 4, 2) := by decide +kernel
theorem d_M_loose_221 : decode b_M_loose 221 = .ok (.goto 11, 3) := by decide +kernel
theorem d_M_loose_224 : decode b_M_loose 224 = .ok (.iload 4, 2) := by decide +kernel
theorem d_M_loose_226 : decode b_M_loose 226 = .ok (.bipush 10, 2) := by decide +kernel
theorem d_M_loose_228 : decode b_M_loose 228 = .ok (.imul, 1) := by decide +kernel
theorem d_M_loose_229 : decode b_M_loose 229 = .ok (.iload 12, 2) := by decide +kernel
theorem d_M_loose_231 : decode b_M_loose 231 = .ok (.iadd, 1) := by decide +kernel
theorem d_M_loose_232 : decode b_M_loose 232 = .ok (.istore 4, 2) := by decide +kernel
theorem d_M_loose_234 : decode b_M_loose 234 = .ok (.goto 54, 3) := by decide +kernel
theorem d_M_loose_237 : decode b_M_loose 237 = .ok (.iload_n 3, 1) := by decide +kernel
theorem d_M_loose_238 : decode b_M_loose 238 = .ok (.iload 6, 2) := by decide +kernel
theorem d_M_loose_240 : decode b_M_loose 240 = .ok (.ifCond .eq 7, 3) := by decide +kernel
theorem d_M_loose_243 : decode b_M_loose 243 = .ok (.iconst 1, 1) := by decide +kernel
theorem d_M_loose_244 : decode b_M_loose 244 = .ok (.goto 4, 3) := by decide +kernel
theorem d_M_loose_247 : decode b_M_loose 247 = .ok (.iconst 0, 1) := by decide +kernel
theorem d_M_loose_248 : decode b_M_loose 248 = .ok (.isub, 1) := by decide +kernel
theorem d_M_loose_249 : decode b_M_loose 249 = .ok (.istore_n 3, 1) := by decide +kernel
theorem d_M_loose_250 : decode b_M_loose 250 = .ok (.iload 12, 2) := by decide +kernel
theorem d_M_loose_252 : decode b_M_loose 252 = .ok (.ifCond .eq 14, 3) := by decide +kernel
theorem d_M_loose_255 : decode b_M_loose 255 = .ok (.aload_n 0, 1) := by decide +kernel
theorem d_M_loose_256 : decode b_M_loose 256 = .ok (.iload 5, 2) := by decide +kernel
theorem d_M_loose_258 : decode b_M_loose 258 = .ok (.iload 12, 2) := by decide +kernel
theorem d_M_loose_260 : decode b_M_loose 260 = .ok (.invokevirtual 171, 3) := by decide +kernel
theorem d_M_loose_263 : decode b_M_loose 263 = .ok (.ifCond .eq 7, 3) := by decide +kernel
theorem d_M_loose_266 : decode b_M_loose 266 = .ok (.iconst 1, 1) := by decide +kernel
theorem d_M_loose_267 : decode b_M_loose 267 = .ok (.goto 4, 3) := by decide +kernel
theorem d_M_loose_270 : decode b_M_loose 270 = .ok (.iconst 0, 1) := by decide +kernel
theorem d_M_loose_271 : decode b_M_loose 271 = .ok (.istore 9, 2) := by decide +kernel
theorem d_M_loose_273 : decode b_M_loose 273 = .ok (.iload 12, 2) := by decide +kernel
theorem d_M_loose_275 : decode b_M_loose 275 = .ok (.ifCond .ne 10, 3) := by decide +kernel
theorem d_M_loose_278 : decode b_M_loose 278 = .ok (.iload 5, 2) := by decide +kernel
theorem d_M_loose_280 : decode b_M_loose 280 = .ok (.iconst 1, 1) := by decide +kernel
theorem d_M_loose_281 : decode b_M_loose 281 = .ok (.iadd, 1) := by decide +kernel
theorem d_M_loose_282 : decode b_M_loose 282 = .ok (.goto 4, 3) := by decide +kernel
theorem d_M_loose_285 : decode b_M_loose 285 = .ok (.iconst 0, 1) := by decide +kernel
theorem d_M_loose_286 : decode b_M_loose 286 = .ok (.istore 5, 2) := by decide +kernel
theorem d_M_loose_288 : decode b_M_loose 288 = .ok (.iinc 10 1, 3) := by decide +kernel
theorem d_M_loose_291 : decode b_M_loose 291 = .ok (.goto (-263), 3) := by decide +kernel
theorem d_M_loose_294 : decode b_M_loose 294 = .ok (.aload_n 0, 1) := by decide +kernel
theorem d_M_loose_295 : decode b_M_loose 295 = .ok (.iload_n 3, 1) := by decide +kernel
theorem d_M_loose_296 : decode b_M_loose 296 = .ok (.iload 5, 2) := by decide +kernel
theorem d_M_loose_298 : decode b_M_loose 298 = .ok (.iadd, 1) := by decide +kernel
theorem d_M_loose_299 : decode b_M_loose 299 = .ok (.iload 8, 2) := by decide +kernel
theorem d_M_loose_301 : decode b_M_loose 301 = .ok (.ifCond .eq 9, 3) := by decide +kernel
theorem d_M_loose_304 : decode b_M_loose 304 = .ok (.iload 4, 2) := by decide +kernel
theorem d_M_loose_306 : decode b_M_loose 306 = .ok (.ineg, 1) := by decide +kernel
theorem d_M_loose_307 : decode b_M_loose 307 = .ok (.goto 5, 3) := by decide +kernel
theorem d_M_loose_310 : decode b_M_loose 310 = .ok (.iload 4, 2) := by decide +kernel
theorem d_M_loose_312 : decode b_M_loose 312 = .ok (.iadd, 1) := by decide +kernel
theorem d_M_loose_313 : decode b_M_loose 313 = .ok (.ineg, 1) := by decide +kernel
theorem d_M_loose_314 : decode b_M_loose 314 = .ok (.putfield 174, 3) := by decide +kernel
theorem d_M_loose_317 : decode b_M_loose 317 = .ok (.iload 9, 2) := by decide +kernel
theorem d_M_loose_319 : decode b_M_loose 319 = .ok (.ireturn, 1) := by decide +kernel
theorem d_M_settle_0 : decode b_M_settle 0 = .ok (.aload_n 0, 1) := by decide +kernel
theorem d_M_settle_1 : decode b_M_settle 1 = .ok (.aload_n 0, 1) := by decide +kernel
theorem d_M_settle_2 : decode b_M_settle 2 = .ok (.getfield 167, 3) := by decide +kernel
theorem d_M_settle_5 : decode b_M_settle 5 = .ok (.lconst 0, 1) := by decide +kernel
theorem d_M_settle_6 : decode b_M_settle 6 = .ok (.lcmp, 1) := by decide +kernel
theorem d_M_settle_7 : decode b_M_settle 7 = .ok (.ifCond .ne 7, 3) := by decide +kernel
theorem d_M_settle_10 : decode b_M_settle 10 = .ok (.iconst 0, 1) := by decide +kernel
theorem d_M_settle_11 : decode b_M_settle 11 = .ok (.goto 20, 3) := by decide +kernel
theorem d_M_settle_14 : decode b_M_settle 14 = .ok (.aload_n 0, 1) := by decide +kernel
theorem d_M_settle_15 : decode b_M_settle 15 = .ok (.getfield 174, 3) := by decide +kernel
theorem d_M_settle_18 : decode b_M_settle 18 = .ok (.aload_n 0, 1) := by decide +kernel
theorem d_M_settle_19 : decode b_M_settle 19 = .ok (.invokevirtual 112, 3) := by decide +kernel
theorem d_M_settle_22 : decode b_M_settle 22 = .ok (.ifCond .eq 7, 3) := by decide +kernel
theorem d_M_settle_25 : decode b_M_settle 25 = .ok (.iconst 2, 1) := by decide +kernel
theorem d_M_settle_26 : decode b_M_settle 26 = .ok (.goto 4, 3) := by decide +kernel
theorem d_M_settle_29 : decode b_M_settle 29 = .ok (.iconst 0, 1) := by decide +kernel
theorem d_M_settle_30 : decode b_M_settle 30 = .ok (.iadd, 1) := by decide +kernel
theorem d_M_settle_31 : decode b_M_settle 31 = .ok (.putfield 174, 3) := by decide +kernel
theorem d_M_settle_34 : decode b_M_settle 34 = .ok (.aload_n 0, 1) := by decide +kernel
theorem d_M_settle_35 : decode b_M_settle 35 = .ok (.getfield 174, 3) := by decide +kernel
theorem d_M_settle_38 : decode b_M_settle 38 = .ok (.ifCond .ge 41, 3) := by decide +kernel
theorem d_M_settle_41 : decode b_M_settle 41 = .ok (.aload_n 0, 1) := by decide +kernel
theorem d_M_settle_42 : decode b_M_settle 42 = .ok (.getfield 167, 3) := by decide +kernel
theorem d_M_settle_45 : decode b_M_settle 45 = .ok (.ldc2_w 177, 3) := by decide +kernel
theorem d_M_settle_48 : decode b_M_settle 48 = .ok (.lcmp, 1) := by decide +kernel
theorem d_M_settle_49 : decode b_M_settle 49 = .ok (.ifCond .le 5, 3) := by decide +kernel
theorem d_M_settle_52 : decode b_M_settle 52 = .ok (.iconst 0, 1) := by decide +kernel
theorem d_M_settle_53 : decode b_M_settle 53 = .ok (.ireturn, 1) := by decide +kernel
theorem d_M_settle_54 : decode b_M_settle 54 = .ok (.aload_n 0, 1) := by decide +kernel
theorem d_M_settle_55 : decode b_M_settle 55 = .ok (.aload_n 0, 1) := by decide +kernel
theorem d_M_settle_56 : decode b_M_settle 56 = .ok (.getfield 167, 3) := by decide +kernel
theorem d_M_settle_59 : decode b_M_settle 59 = .ok (.ldc2_w 115, 3) := by decide +kernel
theorem d_M_settle_62 : decode b_M_settle 62 = .ok (.lmul, 1) := by decide +kernel
theorem d_M_settle_63 : decode b_M_settle 63 = .ok (.putfield 167, 3) := by decide +kernel
theorem d_M_settle_66 : decode b_M_settle 66 = .ok (.aload_n 0, 1) := by decide +kernel
theorem d_M_settle_67 : decode b_M_settle 67 = .ok (.dup, 1) := by decide +kernel
theorem d_M_settle_68 : decode b_M_settle 68 = .ok (.getfield 174, 3) := by decide +kernel
theorem d_M_settle_71 : decode b_M_settle 71 = .ok (.iconst 1, 1) := by decide +kernel
theorem d_M_settle_72 : decode b_M_settle 72 = .ok (.iadd, 1) := by decide +kernel
theorem d_M_settle_73 : decode b_M_settle 73 = .ok (.putfield 174, 3) := by decide +kernel
theorem d_M_settle_76 : decode b_M_settle 76 = .ok (.goto (-42), 3) := by decide +kernel
theorem d_M_settle_79 : decode b_M_settle 79 = .ok (.aload_n 0, 1) := by decide +kernel
theorem d_M_settle_80 : decode b_M_settle 80 = .ok (.getfield 174, 3) := by decide +kernel
theorem d_M_settle_83 : decode b_M_settle 83 = .ok (.bipush 18, 2) := by decide +kernel
theorem d_M_settle_85 : decode b_M_settle 85 = .ok (.if_icmp .gt 7, 3) := by decide +kernel
theorem d_M_settle_88 : decode b_M_settle 88 = .ok (.iconst 1, 1) := by decide +kernel
theorem d_M_settle_89 : decode b_M_settle 89 = .ok (.goto 4, 3) := by decide +kernel
theorem d_M_settle_92 : decode b_M_settle 92 = .ok (.iconst 0, 1) := by decide +kernel
theorem d_M_settle_93 : decode b_M_settle 93 = .ok (.ireturn, 1) := by decide +kernel
theorem d_M_isText_0 : decode b_M_isText 0 = .ok (.aload_n 0, 1) := by decide +kernel
theorem d_M_isText_1 : decode b_M_isText 1 = .ok (.iload_n 1, 1) := by decide +kernel
theorem d_M_isText_2 : decode b_M_isText 2 = .ok (.aload_n 0, 1) := by decide +kernel
theorem d_M_isText_3 : decode b_M_isText 3 = .ok (.getfield 167, 3) := by decide +kernel
theorem d_M_isText_6 : decode b_M_isText 6 = .ok (.aload_n 0, 1) := by decide +kernel
theorem d_M_isText_7 : decode b_M_isText 7 = .ok (.getfield 174, 3) := by decide +kernel
theorem d_M_isText_10 : decode b_M_isText 10 = .ok (.bipush 7, 2) := by decide +kernel
theorem d_M_isText_12 : decode b_M_isText 12 = .ok (.invokevirtual 160, 3) := by decide +kernel
theorem d_M_isText_15 : decode b_M_isText 15 = .ok (.ifCond .eq 18, 3) := by decide +kernel
theorem d_M_isText_18 : decode b_M_isText 18 = .ok (.aload_n 0, 1) := by decide +kernel
theorem d_M_isText_19 : decode b_M_isText 19 = .ok (.getfield 127, 3) := by decide +kernel
theorem d_M_isText_22 : decode b_M_isText 22 = .ok (.aload_n 0, 1) := by decide +kernel
theorem d_M_isText_23 : decode b_M_isText 23 = .ok (.getfield 164, 3) := by decide +kernel
theorem d_M_isText_26 : decode b_M_isText 26 = .ok (.if_icmp .ne 7, 3) := by decide +kernel
theorem d_M_isText_29 : decode b_M_isText 29 = .ok (.iconst 1, 1) := by decide +kernel
theorem d_M_isText_30 : decode b_M_isText 30 = .ok (.goto 4, 3) := by decide +kernel
theorem d_M_isText_33 : decode b_M_isText 33 = .ok (.iconst 0, 1) := by decide +kernel
theorem d_M_isText_34 : decode b_M_isText 34 = .ok (.istore_n 2, 1) := by decide +kernel
theorem d_M_isText_35 : decode b_M_isText 35 = .ok (.iconst 0, 1) := by decide +kernel
theorem d_M_isText_36 : decode b_M_isText 36 = .ok (.istore_n 3, 1) := by decide +kernel
theorem d_M_isText_37 : decode b_M_isText 37 = .ok (.iload_n 3, 1) := by decide +kernel
theorem d_M_isText_38 : decode b_M_isText 38 = .ok (.aload_n 0, 1) := by decide +kernel
theorem d_M_isText_39 : decode b_M_isText 39 = .ok (.getfield 164, 3) := by decide +kernel
theorem d_M_isText_42 : decode b_M_isText 42 = .ok (.if_icmp .ge 34, 3) := by decide +kernel
theorem d_M_isText_45 : decode b_M_isText 45 = .ok (.iload_n 2, 1) := by decide +kernel
theorem d_M_isText_46 : decode b_M_isText 46 = .ok (.ifCond .eq 30, 3) := by decide +kernel
theorem d_M_isText_49 : decode b_M_isText 49 = .ok (.aload_n 0, 1) := by decide +kernel
theorem d_M_isText_50 : decode b_M_isText 50 = .ok (.getfield 44, 3) := by decide +kernel
theorem d_M_isText_53 : decode b_M_isText 53 = .ok (.iload_n 3, 1) := by decide +kernel
theorem d_M_isText_54 : decode b_M_isText 54 = .ok (.iaload, 1) := by decide +kernel
theorem d_M_isText_55 : decode b_M_isText 55 = .ok (.aload_n 0, 1) := by decide +kernel
theorem d_M_isText_56 : decode b_M_isText 56 = .ok (.getfield 47, 3) := by decide +kernel
theorem d_M_isText_59 : decode b_M_isText 59 = .ok (.iload_n 3, 1) := by decide +kernel
theorem d_M_isText_60 : decode b_M_isText 60 = .ok (.iaload, 1) := by decide +kernel
theorem d_M_isText_61 : decode b_M_isText 61 = .ok (.if_icmp .ne 7, 3) := by decide +kernel
theorem d_M_isText_64 : decode b_M_isText 64 = .ok (.iconst 1, 1) := by decide +kernel
theorem d_M_isText_65 : decode b_M_isText 65 = .ok (.goto 4, 3) := by decide +kernel
theorem d_M_isText_68 : decode b_M_isText 68 = .ok (.iconst 0, 1) := by decide +kernel
theorem d_M_isText_69 : decode b_M_isText 69 = .ok (.istore_n 2, 1) := by decide +kernel
theorem d_M_isText_70 : decode b_M_isText 70 = .ok (.iinc 3 1, 3) := by decide +kernel
theorem d_M_isText_73 : decode b_M_isText 73 = .ok (.goto (-36), 3) := by decide +kernel
theorem d_M_isText_76 : decode b_M_isText 76 = .ok (.iload_n 2, 1) := by decide +kernel
theorem d_M_isText_77 : decode b_M_isText 77 = .ok (.ireturn, 1) := by decide +kernel
theorem d_M_readAs_0 : decode b_M_readAs 0 = .ok (.aload_n 0, 1) := by decide +kernel
theorem d_M_readAs_1 : decode b_M_readAs 1 = .ok (.iload_n 1, 1) := by decide +kernel
theorem d_M_readAs_2 : decode b_M_readAs 2 = .ok (.invokevirtual 179, 3) := by decide +kernel
theorem d_M_readAs_5 : decode b_M_readAs 5 = .ok (.istore_n 2, 1) := by decide +kernel
theorem d_M_readAs_6 : decode b_M_readAs 6 = .ok (.aload_n 0, 1) := by decide +kernel
theorem d_M_readAs_7 : decode b_M_readAs 7 = .ok (.getfield 164, 3) := by decide +kernel
theorem d_M_readAs_10 : decode b_M_readAs 10 = .ok (.aload_n 0, 1) := by decide +kernel
theorem d_M_readAs_11 : decode b_M_readAs 11 = .ok (.getfield 31, 3) := by decide +kernel
theorem d_M_readAs_14 : decode b_M_readAs 14 = .ok (.iload_n 1, 1) := by decide +kernel
theorem d_M_readAs_15 : decode b_M_readAs 15 = .ok (.ifCond .eq 14, 3) := by decide +kernel
theorem d_M_readAs_18 : decode b_M_readAs 18 = .ok (.aload_n 0, 1) := by decide +kernel
theorem d_M_readAs_19 : decode b_M_readAs 19 = .ok (.getfield 104, 3) := by decide +kernel
theorem d_M_readAs_22 : decode b_M_readAs 22 = .ok (.ifCond .eq 7, 3) := by decide +kernel
theorem d_M_readAs_25 : decode b_M_readAs 25 = .ok (.iconst 3, 1) := by decide +kernel
theorem d_M_readAs_26 : decode b_M_readAs 26 = .ok (.goto 4, 3) := by decide +kernel
theorem d_M_readAs_29 : decode b_M_readAs 29 = .ok (.iconst 1, 1) := by decide +kernel
theorem d_M_readAs_30 : decode b_M_readAs 30 = .ok (.iaload, 1) := by decide +kernel
theorem d_M_readAs_31 : decode b_M_readAs 31 = .ok (.isub, 1) := by decide +kernel
theorem d_M_readAs_32 : decode b_M_readAs 32 = .ok (.istore_n 3, 1) := by decide +kernel
theorem d_M_readAs_33 : decode b_M_readAs 33 = .ok (.iload_n 2, 1) := by decide +kernel
theorem d_M_readAs_34 : decode b_M_readAs 34 = .ok (.iload_n 3, 1) := by decide +kernel
theorem d_M_readAs_35 : decode b_M_readAs 35 = .ok (.if_icmp .ge 31, 3) := by decide +kernel
theorem d_M_readAs_38 : decode b_M_readAs 38 = .ok (.aload_n 0, 1) := by decide +kernel
theorem d_M_readAs_39 : decode b_M_readAs 39 = .ok (.iload_n 2, 1) := by decide +kernel
theorem d_M_readAs_40 : decode b_M_readAs 40 = .ok (.iload_n 3, 1) := by decide +kernel
theorem d_M_readAs_41 : decode b_M_readAs 41 = .ok (.invokevirtual 183, 3) := by decide +kernel
theorem d_M_readAs_44 : decode b_M_readAs 44 = .ok (.ifCond .eq 22, 3) := by decide +kernel
theorem d_M_readAs_47 : decode b_M_readAs 47 = .ok (.aload_n 0, 1) := by decide +kernel
theorem d_M_readAs_48 : decode b_M_readAs 48 = .ok (.invokevirtual 186, 3) := by decide +kernel
theorem d_M_readAs_51 : decode b_M_readAs 51 = .ok (.ifCond .eq 15, 3) := by decide +kernel
theorem d_M_readAs_54 : decode b_M_readAs 54 = .ok (.aload_n 0, 1) := by decide +kernel
theorem d_M_readAs_55 : decode b_M_readAs 55 = .ok (.iload_n 1, 1) := by decide +kernel
theorem d_M_readAs_56 : decode b_M_readAs 56 = .ok (.invokevirtual 189, 3) := by decide +kernel
theorem d_M_readAs_59 : decode b_M_readAs 59 = .ok (.ifCond .eq 7, 3) := by decide +kernel
