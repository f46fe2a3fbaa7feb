/-! THE CLAIM OUT OF ONE WALK OF THE LAW'S BODY. Your part is whole_start (and what it stands on); all else here is the same for every law, but numbers. -/
def R_law : String := "DecimalPatternsLaw"
def lw_P (b : Addr) (xs : List Int32) (args : Array Value) (s : State) : Prop := args = #[.ref b] ∧ s.IntsAt b xs ∧ xs.length ≤ 2560 ∧ (Jvm.Cond.and given_1 narrow_1).before args s = true
def lw_Q (_ : Array Value) (s : State) (o : Outcome) (t : State) : Prop := o = .returned (some (.int 1)) ∧ Framed s o t [] 600000 7302250
def lw_Z (below : List Frame) (a : Array Value) (s : State) : State → Prop := fun t => ∃ o, t.status = .running ∧ Ended t below o ∧ lw_Q a s o t
/-- the law's own end, with 1 on the stack, nothing written that was there before, its room as the claim has it -/
theorem lw_ret {p : Program} {l : Launch} {e : Env} {s : State} {m : MethodId} {below : List Frame} {meth : Method} {c : Code} {b : Nat} (hx : p.tables.exec = Jvm.exec) (hb : c.code = code) (hr : meth.sig.returnType = ret) (hlocks : meth.locks = false) {pc : Nat} {H : Heap} {ls : Array Slot} (hdg : decode code pc = .ok (.ireturn, 1)) : W p l e room_1 s m #[Value.ref b] below meth c H [] 600000 7302250 (lw_Z below #[Value.ref b] s) (F0 m pc ls [.int 1]) := by
  intro T hT X
  obtain ⟨fs, hret, hrun, hended, hW, hframe⟩ := X.leave (v := some (.int 1)) (hlocks := hlocks) (fun h => by rw [hr] at h; cases h)
  have hmeth' : T.vm.method? m = some meth := X.method'
  refine ⟨T.setFrames fs, ?_, .returned (some (.int 1)), hrun, hended, rfl, ⟨_, rfl⟩, hW, hframe⟩
  jvm_step X.here [X.here.top, hx, hb, hdg, hmeth', hr, ret, narrow_b1]
  (try refine ⟨rfl, ?_⟩); (try refine ⟨rfl, ?_⟩)
  first | (intro acts; rw [hret _ acts rfl rfl rfl]) | rw [hret _ _ rfl rfl rfl]
  exact Steps.refl _
/-- what holds at the law's entry: the machine, the code, the tables' words (any of lw_tbl by 'hts w (by decide +kernel)'), the script of L ints xs at the cell b, what the Statement gives of the start (any of its parts by flat_of_before) -/
def lw_At (p : Program) (s : State) (m : MethodId) (meth : Method) (c : Code) (b L : Nat) (xs : Nat → Int32) : Prop :=
  p.tables.exec = Jvm.exec ∧ c.code = code ∧ meth.sig.returnType = ret ∧ c.maxLocals = 4 ∧ s.vm.findClass R_law = some m.cls ∧ (∀ w ∈ lw_tbl, w.before #[Value.ref b] s = true) ∧ va_X b L xs s s.heap ∧ b < s.heap.size ∧ meth.locks = false ∧ (Jvm.Cond.and given_1 narrow_1).before #[Value.ref b] s = true
abbrev b_law : ByteArray := code
theorem nw_in : nw_1 ∈ lw_tbl := List.mem_of_getElem? (i := 461) (by decide +kernel)
theorem d_law_0 : decode b_law 0 = .ok (.new 7, 3) := by decide +kernel
theorem d_law_3 : decode b_law 3 = .ok (.dup, 1) := by decide +kernel
theorem d_law_4 : decode b_law 4 = .ok (.invokespecial 9, 3) := by decide +kernel
theorem d_law_7 : decode b_law 7 = .ok (.astore_n 1, 1) := by decide +kernel
theorem d_law_8 : decode b_law 8 = .ok (.new 10, 3) := by decide +kernel
theorem d_law_11 : decode b_law 11 = .ok (.dup, 1) := by decide +kernel
theorem d_law_12 : decode b_law 12 = .ok (.invokespecial 12, 3) := by decide +kernel
theorem d_law_15 : decode b_law 15 = .ok (.astore_n 2, 1) := by decide +kernel
theorem d_law_16 : decode b_law 16 = .ok (.iconst 0, 1) := by decide +kernel
theorem d_law_17 : decode b_law 17 = .ok (.istore_n 3, 1) := by decide +kernel
theorem d_law_18 : decode b_law 18 = .ok (.iload_n 3, 1) := by decide +kernel
theorem d_law_19 : decode b_law 19 = .ok (.aload_n 0, 1) := by decide +kernel
theorem d_law_20 : decode b_law 20 = .ok (.arraylength, 1) := by decide +kernel
theorem d_law_21 : decode b_law 21 = .ok (.iconst 5, 1) := by decide +kernel
theorem d_law_22 : decode b_law 22 = .ok (.isub, 1) := by decide +kernel
theorem d_law_23 : decode b_law 23 = .ok (.if_icmp .gt 375, 3) := by decide +kernel
theorem d_law_26 : decode b_law 26 = .ok (.aload_n 0, 1) := by decide +kernel
theorem d_law_27 : decode b_law 27 = .ok (.iload_n 3, 1) := by decide +kernel
theorem d_law_28 : decode b_law 28 = .ok (.iaload, 1) := by decide +kernel
theorem d_law_29 : decode b_law 29 = .ok (.bipush 15, 2) := by decide +kernel
theorem d_law_31 : decode b_law 31 = .ok (.iand, 1) := by decide +kernel
theorem d_law_32 : decode b_law 32 = .ok (.tableswitch 360 0 12 #[68, 93, 104, 117, 152, 175, 248, 273, 284, 297, 320, 333, 347], 68) := by decide +kernel
theorem d_law_100 : decode b_law 100 = .ok (.aload_n 1, 1) := by decide +kernel
theorem d_law_101 : decode b_law 101 = .ok (.aload_n 0, 1) := by decide +kernel
theorem d_law_102 : decode b_law 102 = .ok (.iload_n 3, 1) := by decide +kernel
theorem d_law_103 : decode b_law 103 = .ok (.iconst 1, 1) := by decide +kernel
theorem d_law_104 : decode b_law 104 = .ok (.iadd, 1) := by decide +kernel
theorem d_law_105 : decode b_law 105 = .ok (.iaload, 1) := by decide +kernel
theorem d_law_106 : decode b_law 106 = .ok (.i2c, 1) := by decide +kernel
theorem d_law_107 : decode b_law 107 = .ok (.invokevirtual 13, 3) := by decide +kernel
theorem d_law_110 : decode b_law 110 = .ok (.aload_n 2, 1) := by decide +kernel
theorem d_law_111 : decode b_law 111 = .ok (.aload_n 0, 1) := by decide +kernel
theorem d_law_112 : decode b_law 112 = .ok (.iload_n 3, 1) := by decide +kernel
theorem d_law_113 : decode b_law 113 = .ok (.iconst 1, 1) := by decide +kernel
theorem d_law_114 : decode b_law 114 = .ok (.iadd, 1) := by decide +kernel
theorem d_law_115 : decode b_law 115 = .ok (.iaload, 1) := by decide +kernel
theorem d_law_116 : decode b_law 116 = .ok (.i2c, 1) := by decide +kernel
theorem d_law_117 : decode b_law 117 = .ok (.invokevirtual 17, 3) := by decide +kernel
theorem d_law_120 : decode b_law 120 = .ok (.if_icmp .eq 272, 3) := by decide +kernel
theorem d_law_123 : decode b_law 123 = .ok (.iconst 0, 1) := by decide +kernel
theorem d_law_124 : decode b_law 124 = .ok (.ireturn, 1) := by decide +kernel
theorem d_law_125 : decode b_law 125 = .ok (.aload_n 1, 1) := by decide +kernel
theorem d_law_126 : decode b_law 126 = .ok (.invokevirtual 18, 3) := by decide +kernel
theorem d_law_129 : decode b_law 129 = .ok (.aload_n 2, 1) := by decide +kernel
theorem d_law_130 : decode b_law 130 = .ok (.invokevirtual 21, 3) := by decide +kernel
theorem d_law_133 : decode b_law 133 = .ok (.goto 259, 3) := by decide +kernel
theorem d_law_136 : decode b_law 136 = .ok (.aload_n 1, 1) := by decide +kernel
theorem d_law_137 : decode b_law 137 = .ok (.invokevirtual 22, 3) := by decide +kernel
theorem d_law_140 : decode b_law 140 = .ok (.aload_n 2, 1) := by decide +kernel
theorem d_law_141 : decode b_law 141 = .ok (.invokevirtual 26, 3) := by decide +kernel
theorem d_law_144 : decode b_law 144 = .ok (.if_icmp .eq 248, 3) := by decide +kernel
theorem d_law_147 : decode b_law 147 = .ok (.iconst 0, 1) := by decide +kernel
theorem d_law_148 : decode b_law 148 = .ok (.ireturn, 1) := by decide +kernel
theorem d_law_149 : decode b_law 149 = .ok (.aload_n 1, 1) := by decide +kernel
theorem d_law_150 : decode b_law 150 = .ok (.aload_n 0, 1) := by decide +kernel
theorem d_law_151 : decode b_law 151 = .ok (.iload_n 3, 1) := by decide +kernel
theorem d_law_152 : decode b_law 152 = .ok (.iconst 1, 1) := by decide +kernel
theorem d_law_153 : decode b_law 153 = .ok (.iadd, 1) := by decide +kernel
theorem d_law_154 : decode b_law 154 = .ok (.iaload, 1) := by decide +kernel
theorem d_law_155 : decode b_law 155 = .ok (.aload_n 0, 1) := by decide +kernel
theorem d_law_156 : decode b_law 156 = .ok (.iload_n 3, 1) := by decide +kernel
theorem d_law_157 : decode b_law 157 = .ok (.iconst 2, 1) := by decide +kernel
theorem d_law_158 : decode b_law 158 = .ok (.iadd, 1) := by decide +kernel
theorem d_law_159 : decode b_law 159 = .ok (.iaload, 1) := by decide +kernel
theorem d_law_160 : decode b_law 160 = .ok (.i2c, 1) := by decide +kernel
theorem d_law_161 : decode b_law 161 = .ok (.invokevirtual 27, 3) := by decide +kernel
theorem d_law_164 : decode b_law 164 = .ok (.aload_n 2, 1) := by decide +kernel
theorem d_law_165 : decode b_law 165 = .ok (.aload_n 0, 1) := by decide +kernel
theorem d_law_166 : decode b_law 166 = .ok (.iload_n 3, 1) := by decide +kernel
theorem d_law_167 : decode b_law 167 = .ok (.iconst 1, 1) := by decide +kernel
theorem d_law_168 : decode b_law 168 = .ok (.iadd, 1) := by decide +kernel
theorem d_law_169 : decode b_law 169 = .ok (.iaload, 1) := by decide +kernel
theorem d_law_170 : decode b_law 170 = .ok (.aload_n 0, 1) := by decide +kernel
theorem d_law_171 : decode b_law 171 = .ok (.iload_n 3, 1) := by decide +kernel
theorem d_law_172 : decode b_law 172 = .ok (.iconst 2, 1) := by decide +kernel
theorem d_law_173 : decode b_law 173 = .ok (.iadd, 1) := by decide +kernel
theorem d_law_174 : decode b_law 174 = .ok (.iaload, 1) := by decide +kernel
theorem d_law_175 : decode b_law 175 = .ok (.i2c, 1) := by decide +kernel
theorem d_law_176 : decode b_law 176 = .ok (.invokevirtual 31, 3) := by decide +kernel
theorem d_law_179 : decode b_law 179 = .ok (.if_icmp .eq 213, 3) := by decide +kernel
theorem d_law_182 : decode b_law 182 = .ok (.iconst 0, 1) := by decide +kernel
theorem d_law_183 : decode b_law 183 = .ok (.ireturn, 1) := by decide +kernel
theorem d_law_184 : decode b_law 184 = .ok (.aload_n 1, 1) := by decide +kernel
theorem d_law_185 : decode b_law 185 = .ok (.aload_n 0, 1) := by decide +kernel
theorem d_law_186 : decode b_law 186 = .ok (.iload_n 3, 1) := by decide +kernel
theorem d_law_187 : decode b_law 187 = .ok (.iconst 1, 1) := by decide +kernel
theorem d_law_188 : decode b_law 188 = .ok (.iadd, 1) := by decide +kernel
theorem d_law_189 : decode b_law 189 = .ok (.iaload, 1) := by decide +kernel
theorem d_law_190 : decode b_law 190 = .ok (.invokevirtual 32, 3) := by decide +kernel
theorem d_law_193 : decode b_law 193 = .ok (.aload_n 2, 1) := by decide +kernel
theorem d_law_194 : decode b_law 194 = .ok (.aload_n 0, 1) := by decide +kernel
theorem d_law_195 : decode b_law 195 = .ok (.iload_n 3, 1) := by decide +kernel
theorem d_law_196 : decode b_law 196 = .ok (.iconst 1, 1) := by decide +kernel
theorem d_law_197 : decode b_law 197 = .ok (.iadd, 1) := by decide +kernel
theorem d_law_198 : decode b_law 198 = .ok (.iaload, 1) := by decide +kernel
theorem d_law_199 : decode b_law 199 = .ok (.invokevirtual 36, 3) := by decide +kernel
theorem d_law_202 : decode b_law 202 = .ok (.if_icmp .eq 190, 3) := by decide +kernel
theorem d_law_205 : decode b_law 205 = .ok (.iconst 0, 1) := by decide +kernel
theorem d_law_206 : decode b_law 206 = .ok (.ireturn, 1) := by decide +kernel
theorem d_law_207 : decode b_law 207 = .ok (.aload_n 1, 1) := by decide +kernel
theorem d_law_208 : decode b_law 208 = .ok (.aload_n 0, 1) := by decide +kernel
theorem d_law_209 : decode b_law 209 = .ok (.iload_n 3, 1) := by decide +kernel
theorem d_law_210 : decode b_law 210 = .ok (.iconst 1, 1) := by decide +kernel
theorem d_law_211 : decode b_law 211 = .ok (.iadd, 1) := by decide +kernel
theorem d_law_212 : decode b_law 212 = .ok (.iaload, 1) := by decide +kernel
theorem d_law_213 : decode b_law 213 = .ok (.i2l, 1) := by decide +kernel
theorem d_law_214 : decode b_law 214 = .ok (.bipush 32, 2) := by decide +kernel
theorem d_law_216 : decode b_law 216 = .ok (.lshl, 1) := by decide +kernel
theorem d_law_217 : decode b_law 217 = .ok (.aload_n 0, 1) := by decide +kernel
theorem d_law_218 : decode b_law 218 = .ok (.iload_n 3, 1) := by decide +kernel
theorem d_law_219 : decode b_law 219 = .ok (.iconst 2, 1) := by decide +kernel
theorem d_law_220 : decode b_law 220 = .ok (.iadd, 1) := by decide +kernel
theorem d_law_221 : decode b_law 221 = .ok (.iaload, 1) := by decide +kernel
theorem d_law_222 : decode b_law 222 = .ok (.i2l, 1) := by decide +kernel
theorem d_law_223 : decode b_law 223 = .ok (.ldc2_w 37, 3) := by decide +kernel
theorem d_law_226 : decode b_law 226 = .ok (.land, 1) := by decide +kernel
theorem d_law_227 : decode b_law 227 = .ok (.lor, 1) := by decide +kernel
theorem d_law_228 : decode b_law 228 = .ok (.aload_n 0, 1) := by decide +kernel
theorem d_law_229 : decode b_law 229 = .ok (.iload_n 3, 1) := by decide +kernel
theorem d_law_230 : decode b_law 230 = .ok (.iconst 3, 1) := by decide +kernel
theorem d_law_231 : decode b_law 231 = .ok (.iadd, 1) := by decide +kernel
theorem d_law_232 : decode b_law 232 = .ok (.iaload, 1) := by decide +kernel
theorem d_law_233 : decode b_law 233 = .ok (.aload_n 0, 1) := by decide +kernel
theorem d_law_234 : decode b_law 234 = .ok (.iload_n 3, 1) := by decide +kernel
theorem d_law_235 : decode b_law 235 = .ok (.iconst 4, 1) := by decide +kernel
theorem d_law_236 : decode b_law 236 = .ok (.iadd, 1) := by decide +kernel
theorem d_law_237 : decode b_law 237 = .ok (.iaload, 1) := by decide +kernel
theorem d_law_238 : decode b_law 238 = .ok (.invokevirtual 39, 3) := by decide +kernel
theorem d_law_241 : decode b_law 241 = .ok (.aload_n 2, 1) := by decide +kernel
theorem d_law_242 : decode b_law 242 = .ok (.aload_n 0, 1) := by decide +kernel
theorem d_law_243 : decode b_law 243 = .ok (.iload_n 3, 1) := by decide +kernel
theorem d_law_244 : decode b_law 244 = .ok (.iconst 1, 1) := by decide +kernel
theorem d_law_245 : decode b_law 245 = .ok (.iadd, 1) := by decide +kernel
theorem d_law_246 : decode b_law 246 = .ok (.iaload, 1) := by decide +kernel
theorem d_law_247 : decode b_law 247 = .ok (.i2l, 1) := by decide +kernel
theorem d_law_248 : decode b_law 248 = .ok (.bipush 32, 2) := by decide +kernel
theorem d_law_250 : decode b_law 250 = .ok (.lshl, 1) := by decide +kernel
theorem d_law_251 : decode b_law 251 = .ok (.aload_n 0, 1) := by decide +kernel
theorem d_law_252 : decode b_law 252 = .ok (.iload_n 3, 1) := by decide +kernel
theorem d_law_253 : decode b_law 253 = .ok (.iconst 2, 1) := by decide +kernel
theorem d_law_254 : decode b_law 254 = .ok (.iadd, 1) := by decide +kernel
theorem d_law_255 : decode b_law 255 = .ok (.iaload, 1) := by decide +kernel
theorem d_law_256 : decode b_law 256 = .ok (.i2l, 1) := by decide +kernel
theorem d_law_257 : decode b_law 257 = .ok (.ldc2_w 37, 3) := by decide +kernel
theorem d_law_260 : decode b_law 260 = .ok (.land, 1) := by decide +kernel
theorem d_law_261 : decode b_law 261 = .ok (.lor, 1) := by decide +kernel
theorem d_law_262 : decode b_law 262 = .ok (.aload_n 0, 1) := by decide +kernel
theorem d_law_263 : decode b_law 263 = .ok (.iload_n 3, 1) := by decide +kernel
theorem d_law_264 : decode b_law 264 = .ok (.iconst 3, 1) := by decide +kernel
theorem d_law_265 : decode b_law 265 = .ok (.iadd, 1) := by decide +kernel
theorem d_law_266 : decode b_law 266 = .ok (.iaload, 1) := by decide +kernel
theorem d_law_267 : decode b_law 267 = .ok (.aload_n 0, 1) := by decide +kernel
theorem d_law_268 : decode b_law 268 = .ok (.iload_n 3, 1) := by decide +kernel
theorem d_law_269 : decode b_law 269 = .ok (.iconst 4, 1) := by decide +kernel
theorem d_law_270 : decode b_law 270 = .ok (.iadd, 1) := by decide +kernel
theorem d_law_271 : decode b_law 271 = .ok (.iaload, 1) := by decide +kernel
theorem d_law_272 : decode b_law 272 = .ok (.invokevirtual 43, 3) := by decide +kernel
theorem d_law_275 : decode b_law 275 = .ok (.if_icmp .eq 117, 3) := by decide +kernel
theorem d_law_278 : decode b_law 278 = .ok (.iconst 0, 1) := by decide +kernel
theorem d_law_279 : decode b_law 279 = .ok (.ireturn, 1) := by decide +kernel
theorem d_law_280 : decode b_law 280 = .ok (.aload_n 1, 1) := by decide +kernel
theorem d_law_281 : decode b_law 281 = .ok (.aload_n 0, 1) := by decide +kernel
theorem d_law_282 : decode b_law 282 = .ok (.iload_n 3, 1) := by decide +kernel
theorem d_law_283 : decode b_law 283 = .ok (.iconst 1, 1) := by decide +kernel
theorem d_law_284 : decode b_law 284 = .ok (.iadd, 1) := by decide +kernel
theorem d_law_285 : decode b_law 285 = .ok (.iaload, 1) := by decide +kernel
theorem d_law_286 : decode b_law 286 = .ok (.i2c, 1) := by decide +kernel
theorem d_law_287 : decode b_law 287 = .ok (.invokevirtual 44, 3) := by decide +kernel
theorem d_law_290 : decode b_law 290 = .ok (.aload_n 2, 1) := by decide +kernel
theorem d_law_291 : decode b_law 291 = .ok (.aload_n 0, 1) := by decide +kernel
theorem d_law_292 : decode b_law 292 = .ok (.iload_n 3, 1) := by decide +kernel
theorem d_law_293 : decode b_law 293 = .ok (.iconst 1, 1) := by decide +kernel
theorem d_law_294 : decode b_law 294 = .ok (.iadd, 1) := by decide +kernel
theorem d_law_295 : decode b_law 295 = .ok (.iaload, 1) := by decide +kernel
theorem d_law_296 : decode b_law 296 = .ok (.i2c, 1) := by decide +kernel
theorem d_law_297 : decode b_law 297 = .ok (.invokevirtual 47, 3) := by decide +kernel
theorem d_law_300 : decode b_law 300 = .ok (.if_icmp .eq 92, 3) := by decide +kernel
theorem d_law_303 : decode b_law 303 = .ok (.iconst 0, 1) := by decide +kernel
theorem d_law_304 : decode b_law 304 = .ok (.ireturn, 1) := by decide +kernel
theorem d_law_305 : decode b_law 305 = .ok (.aload_n 1, 1) := by decide +kernel
theorem d_law_306 : decode b_law 306 = .ok (.invokevirtual 48, 3) := by decide +kernel
theorem d_law_309 : decode b_law 309 = .ok (.aload_n 2, 1) := by decide +kernel
theorem d_law_310 : decode b_law 310 = .ok (.invokevirtual 51, 3) := by decide +kernel
theorem d_law_313 : decode b_law 313 = .ok (.goto 79, 3) := by decide +kernel
theorem d_law_316 : decode b_law 316 = .ok (.aload_n 1, 1) := by decide +kernel
theorem d_law_317 : decode b_law 317 = .ok (.invokevirtual 52, 3) := by decide +kernel
theorem d_law_320 : decode b_law 320 = .ok (.aload_n 2, 1) := by decide +kernel
theorem d_law_321 : decode b_law 321 = .ok (.invokevirtual 55, 3) := by decide +kernel
theorem d_law_324 : decode b_law 324 = .ok (.if_icmp .eq 68, 3) := by decide +kernel
theorem d_law_327 : decode b_law 327 = .ok (.iconst 0, 1) := by decide +kernel
theorem d_law_328 : decode b_law 328 = .ok (.ireturn, 1) := by decide +kernel
theorem d_law_329 : decode b_law 329 = .ok (.aload_n 1, 1) := by decide +kernel
theorem d_law_330 : decode b_law 330 = .ok (.aload_n 0, 1) := by decide +kernel
theorem d_law_331 : decode b_law 331 = .ok (.iload_n 3, 1) := by decide +kernel
theorem d_law_332 : decode b_law 332 = .ok (.iconst 1, 1) := by decide +kernel
theorem d_law_333 : decode b_law 333 = .ok (.iadd, 1) := by decide +kernel
theorem d_law_334 : decode b_law 334 = .ok (.iaload, 1) := by decide +kernel
theorem d_law_335 : decode b_law 335 = .ok (.invokevirtual 56, 3) := by decide +kernel
theorem d_law_338 : decode b_law 338 = .ok (.aload_n 2, 1) := by decide +kernel
theorem d_law_339 : decode b_law 339 = .ok (.aload_n 0, 1) := by decide +kernel
theorem d_law_340 : decode b_law 340 = .ok (.iload_n 3, 1) := by decide +kernel
theorem d_law_341 : decode b_law 341 = .ok (.iconst 1, 1) := by decide +kernel
theorem d_law_342 : decode b_law 342 = .ok (.iadd, 1) := by decide +kernel
theorem d_law_343 : decode b_law 343 = .ok (.iaload, 1) := by decide +kernel
theorem d_law_344 : decode b_law 344 = .ok (.invokevirtual 60, 3) := by decide +kernel
theorem d_law_347 : decode b_law 347 = .ok (.if_icmp .eq 45, 3) := by decide +kernel
theorem d_law_350 : decode b_law 350 = .ok (.iconst 0, 1) := by decide +kernel
theorem d_law_351 : decode b_law 351 = .ok (.ireturn, 1) := by decide +kernel
theorem d_law_352 : decode b_law 352 = .ok (.aload_n 1, 1) := by decide +kernel
theorem d_law_353 : decode b_law 353 = .ok (.invokevirtual 61, 3) := by decide +kernel
theorem d_law_356 : decode b_law 356 = .ok (.aload_n 2, 1) := by decide +kernel
theorem d_law_357 : decode b_law 357 = .ok (.invokevirtual 64, 3) := by decide +kernel
theorem d_law_360 : decode b_law 360 = .ok (.if_icmp .eq 32, 3) := by decide +kernel
theorem d_law_363 : decode b_law 363 = .ok (.iconst 0, 1) := by decide +kernel
theorem d_law_364 : decode b_law 364 = .ok (.ireturn, 1) := by decide +kernel
theorem d_law_365 : decode b_law 365 = .ok (.aload_n 1, 1) := by decide +kernel
theorem d_law_366 : decode b_law 366 = .ok (.invokevirtual 65, 3) := by decide +kernel
theorem d_law_369 : decode b_law 369 = .ok (.aload_n 2, 1) := by decide +kernel
theorem d_law_370 : decode b_law 370 = .ok (.invokevirtual 69, 3) := by decide +kernel
theorem d_law_373 : decode b_law 373 = .ok (.lcmp, 1) := by decide +kernel
theorem d_law_374 : decode b_law 374 = .ok (.ifCond .eq 18, 3) := by decide +kernel
theorem d_law_377 : decode b_law 377 = .ok (.iconst 0, 1) := by decide +kernel
theorem d_law_378 : decode b_law 378 = .ok (.ireturn, 1) := by decide +kernel
theorem d_law_379 : decode b_law 379 = .ok (.aload_n 1, 1) := by decide +kernel
theorem d_law_380 : decode b_law 380 = .ok (.invokevirtual 70, 3) := by decide +kernel
theorem d_law_383 : decode b_law 383 = .ok (.aload_n 2, 1) := by decide +kernel
theorem d_law_384 : decode b_law 384 = .ok (.invokevirtual 73, 3) := by decide +kernel
theorem d_law_387 : decode b_law 387 = .ok (.if_icmp .eq 5, 3) := by decide +kernel
theorem d_law_390 : decode b_law 390 = .ok (.iconst 0, 1) := by decide +kernel
theorem d_law_391 : decode b_law 391 = .ok (.ireturn, 1) := by decide +kernel
theorem d_law_392 : decode b_law 392 = .ok (.iinc 3 5, 3) := by decide +kernel
theorem d_law_395 : decode b_law 395 = .ok (.goto (-377), 3) := by decide +kernel
theorem d_law_398 : decode b_law 398 = .ok (.iconst 1, 1) := by decide +kernel
theorem d_law_399 : decode b_law 399 = .ok (.ireturn, 1) := by decide +kernel
