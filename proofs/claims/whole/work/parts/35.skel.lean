/-! THE CLAIM OUT OF ONE WALK OF THE LAW'S BODY. Your part is whole_start (and what it stands on); all else here is the same for every law, but numbers. -/
def R_law : String := "TombstoneTextLaw"
def lw_P (b : Addr) (xs : List Int32) (args : Array Value) (s : State) : Prop := args = #[.ref b] ∧ s.IntsAt b xs ∧ xs.length ≤ 2048 ∧ (Jvm.Cond.and given_1 narrow_1).before args s = true
def lw_Q (_ : Array Value) (s : State) (o : Outcome) (t : State) : Prop := o = .returned (some (.int 1)) ∧ Framed s o t [] 600000 7302250
def lw_Z (below : List Frame) (a : Array Value) (s : State) : State → Prop := fun t => ∃ o, t.status = .running ∧ Ended t below o ∧ lw_Q a s o t
/-- the law's own end, with 1 on the stack, nothing written that was there before, its room as the claim has it -/
theorem lw_ret {p : Program} {l : Launch} {e : Env} {s : State} {m : MethodId} {below : List Frame} {meth : Method} {c : Code} {b : Nat} (hx : p.tables.exec = Jvm.exec) (hb : c.code = code) (hr : meth.sig.returnType = ret) (hlocks : meth.locks = false) {pc : Nat} {H : Heap} {ls : Array Slot} (hdg : decode code pc = .ok (.ireturn, 1)) : W p l e room_1 s m #[Value.ref b] below meth c H [] 600000 7302250 (lw_Z below #[Value.ref b] s) (F0 m pc ls [.int 1]) := by
  intro T hT X
  obtain ⟨fs, hret, hrun, hended, hW, hframe⟩ := X.leave (v := some (.int 1)) (hlocks := hlocks) (fun h => by rw [hr] at h; cases h)
  have hmeth' : T.vm.method? m = some meth := X.method'
  refine ⟨T.setFrames fs, ?_, .returned (some (.int 1)), hrun, hended, rfl, ⟨_, rfl⟩, hW, hframe⟩
  jvm_step X.here [X.here.top, hx, hb, hdg, hmeth', hr, ret, narrow_b1]
  (try refine ⟨rfl, ?_⟩); (try refine ⟨rfl, ?_⟩)
  first | (intro acts; rw [hret _ acts rfl rfl rfl]) | rw [hret _ _ rfl rfl rfl]
  exact Steps.refl _
/-- what holds at the law's entry: the machine, the code, the tables' words (any of lw_tbl by 'hts w (by decide +kernel)'), the script of L ints xs at the cell b, what the Statement gives of the start (any of its parts by flat_of_before) -/
def lw_At (p : Program) (s : State) (m : MethodId) (meth : Method) (c : Code) (b L : Nat) (xs : Nat → Int32) : Prop :=
  p.tables.exec = Jvm.exec ∧ c.code = code ∧ meth.sig.returnType = ret ∧ c.maxLocals = 4 ∧ s.vm.findClass R_law = some m.cls ∧ (∀ w ∈ lw_tbl, w.before #[Value.ref b] s = true) ∧ va_X b L xs s s.heap ∧ b < s.heap.size ∧ meth.locks = false ∧ (Jvm.Cond.and given_1 narrow_1).before #[Value.ref b] s = true
theorem dW_0 : decode code 0 = .ok (.new 7, 3) := by decide +kernel
theorem dW_3 : decode code 3 = .ok (.dup, 1) := by decide +kernel
theorem dW_4 : decode code 4 = .ok (.invokespecial 9, 3) := by decide +kernel
theorem dW_7 : decode code 7 = .ok (.astore_n 1, 1) := by decide +kernel
theorem dW_8 : decode code 8 = .ok (.new 10, 3) := by decide +kernel
theorem dW_11 : decode code 11 = .ok (.dup, 1) := by decide +kernel
theorem dW_12 : decode code 12 = .ok (.invokespecial 12, 3) := by decide +kernel
theorem dW_15 : decode code 15 = .ok (.astore_n 2, 1) := by decide +kernel
theorem dW_16 : decode code 16 = .ok (.iconst 0, 1) := by decide +kernel
theorem dW_17 : decode code 17 = .ok (.istore_n 3, 1) := by decide +kernel
theorem dW_18 : decode code 18 = .ok (.iload_n 3, 1) := by decide +kernel
theorem dW_19 : decode code 19 = .ok (.aload_n 0, 1) := by decide +kernel
theorem dW_20 : decode code 20 = .ok (.arraylength, 1) := by decide +kernel
theorem dW_21 : decode code 21 = .ok (.iconst 4, 1) := by decide +kernel
theorem dW_22 : decode code 22 = .ok (.isub, 1) := by decide +kernel
theorem dW_23 : decode code 23 = .ok (.if_icmp .gt 538, 3) := by decide +kernel
theorem dW_26 : decode code 26 = .ok (.aload_n 0, 1) := by decide +kernel
theorem dW_27 : decode code 27 = .ok (.iload_n 3, 1) := by decide +kernel
theorem dW_28 : decode code 28 = .ok (.iaload, 1) := by decide +kernel
theorem dW_29 : decode code 29 = .ok (.bipush 15, 2) := by decide +kernel
theorem dW_31 : decode code 31 = .ok (.iand, 1) := by decide +kernel
theorem dW_32 : decode code 32 = .ok (.tableswitch 523 0 14 #[76, 121, 154, 187, 220, 243, 266, 299, 332, 365, 378, 401, 444, 477, 500], 76) := by decide +kernel
theorem dW_108 : decode code 108 = .ok (.aload_n 1, 1) := by decide +kernel
theorem dW_109 : decode code 109 = .ok (.aload_n 0, 1) := by decide +kernel
theorem dW_110 : decode code 110 = .ok (.iload_n 3, 1) := by decide +kernel
theorem dW_111 : decode code 111 = .ok (.iconst 1, 1) := by decide +kernel
theorem dW_112 : decode code 112 = .ok (.iadd, 1) := by decide +kernel
theorem dW_113 : decode code 113 = .ok (.iaload, 1) := by decide +kernel
theorem dW_114 : decode code 114 = .ok (.aload_n 0, 1) := by decide +kernel
theorem dW_115 : decode code 115 = .ok (.iload_n 3, 1) := by decide +kernel
theorem dW_116 : decode code 116 = .ok (.iconst 2, 1) := by decide +kernel
theorem dW_117 : decode code 117 = .ok (.iadd, 1) := by decide +kernel
theorem dW_118 : decode code 118 = .ok (.iaload, 1) := by decide +kernel
theorem dW_119 : decode code 119 = .ok (.aload_n 0, 1) := by decide +kernel
theorem dW_120 : decode code 120 = .ok (.iload_n 3, 1) := by decide +kernel
theorem dW_121 : decode code 121 = .ok (.iconst 3, 1) := by decide +kernel
theorem dW_122 : decode code 122 = .ok (.iadd, 1) := by decide +kernel
theorem dW_123 : decode code 123 = .ok (.iaload, 1) := by decide +kernel
theorem dW_124 : decode code 124 = .ok (.i2c, 1) := by decide +kernel
theorem dW_125 : decode code 125 = .ok (.invokevirtual 13, 3) := by decide +kernel
theorem dW_128 : decode code 128 = .ok (.aload_n 2, 1) := by decide +kernel
theorem dW_129 : decode code 129 = .ok (.aload_n 0, 1) := by decide +kernel
theorem dW_130 : decode code 130 = .ok (.iload_n 3, 1) := by decide +kernel
theorem dW_131 : decode code 131 = .ok (.iconst 1, 1) := by decide +kernel
theorem dW_132 : decode code 132 = .ok (.iadd, 1) := by decide +kernel
theorem dW_133 : decode code 133 = .ok (.iaload, 1) := by decide +kernel
theorem dW_134 : decode code 134 = .ok (.aload_n 0, 1) := by decide +kernel
theorem dW_135 : decode code 135 = .ok (.iload_n 3, 1) := by decide +kernel
theorem dW_136 : decode code 136 = .ok (.iconst 2, 1) := by decide +kernel
theorem dW_137 : decode code 137 = .ok (.iadd, 1) := by decide +kernel
theorem dW_138 : decode code 138 = .ok (.iaload, 1) := by decide +kernel
theorem dW_139 : decode code 139 = .ok (.aload_n 0, 1) := by decide +kernel
theorem dW_140 : decode code 140 = .ok (.iload_n 3, 1) := by decide +kernel
theorem dW_141 : decode code 141 = .ok (.iconst 3, 1) := by decide +kernel
theorem dW_142 : decode code 142 = .ok (.iadd, 1) := by decide +kernel
theorem dW_143 : decode code 143 = .ok (.iaload, 1) := by decide +kernel
theorem dW_144 : decode code 144 = .ok (.i2c, 1) := by decide +kernel
theorem dW_145 : decode code 145 = .ok (.invokevirtual 17, 3) := by decide +kernel
theorem dW_148 : decode code 148 = .ok (.if_icmp .eq 407, 3) := by decide +kernel
theorem dW_151 : decode code 151 = .ok (.iconst 0, 1) := by decide +kernel
theorem dW_152 : decode code 152 = .ok (.ireturn, 1) := by decide +kernel
theorem dW_153 : decode code 153 = .ok (.aload_n 1, 1) := by decide +kernel
theorem dW_154 : decode code 154 = .ok (.aload_n 0, 1) := by decide +kernel
theorem dW_155 : decode code 155 = .ok (.iload_n 3, 1) := by decide +kernel
theorem dW_156 : decode code 156 = .ok (.iconst 1, 1) := by decide +kernel
theorem dW_157 : decode code 157 = .ok (.iadd, 1) := by decide +kernel
theorem dW_158 : decode code 158 = .ok (.iaload, 1) := by decide +kernel
theorem dW_159 : decode code 159 = .ok (.aload_n 0, 1) := by decide +kernel
theorem dW_160 : decode code 160 = .ok (.iload_n 3, 1) := by decide +kernel
theorem dW_161 : decode code 161 = .ok (.iconst 2, 1) := by decide +kernel
theorem dW_162 : decode code 162 = .ok (.iadd, 1) := by decide +kernel
theorem dW_163 : decode code 163 = .ok (.iaload, 1) := by decide +kernel
theorem dW_164 : decode code 164 = .ok (.invokevirtual 18, 3) := by decide +kernel
theorem dW_167 : decode code 167 = .ok (.aload_n 2, 1) := by decide +kernel
theorem dW_168 : decode code 168 = .ok (.aload_n 0, 1) := by decide +kernel
theorem dW_169 : decode code 169 = .ok (.iload_n 3, 1) := by decide +kernel
theorem dW_170 : decode code 170 = .ok (.iconst 1, 1) := by decide +kernel
theorem dW_171 : decode code 171 = .ok (.iadd, 1) := by decide +kernel
theorem dW_172 : decode code 172 = .ok (.iaload, 1) := by decide +kernel
theorem dW_173 : decode code 173 = .ok (.aload_n 0, 1) := by decide +kernel
theorem dW_174 : decode code 174 = .ok (.iload_n 3, 1) := by decide +kernel
theorem dW_175 : decode code 175 = .ok (.iconst 2, 1) := by decide +kernel
theorem dW_176 : decode code 176 = .ok (.iadd, 1) := by decide +kernel
theorem dW_177 : decode code 177 = .ok (.iaload, 1) := by decide +kernel
theorem dW_178 : decode code 178 = .ok (.invokevirtual 22, 3) := by decide +kernel
theorem dW_181 : decode code 181 = .ok (.if_icmp .eq 374, 3) := by decide +kernel
theorem dW_184 : decode code 184 = .ok (.iconst 0, 1) := by decide +kernel
theorem dW_185 : decode code 185 = .ok (.ireturn, 1) := by decide +kernel
theorem dW_186 : decode code 186 = .ok (.aload_n 1, 1) := by decide +kernel
theorem dW_187 : decode code 187 = .ok (.aload_n 0, 1) := by decide +kernel
theorem dW_188 : decode code 188 = .ok (.iload_n 3, 1) := by decide +kernel
theorem dW_189 : decode code 189 = .ok (.iconst 1, 1) := by decide +kernel
theorem dW_190 : decode code 190 = .ok (.iadd, 1) := by decide +kernel
theorem dW_191 : decode code 191 = .ok (.iaload, 1) := by decide +kernel
theorem dW_192 : decode code 192 = .ok (.aload_n 0, 1) := by decide +kernel
theorem dW_193 : decode code 193 = .ok (.iload_n 3, 1) := by decide +kernel
theorem dW_194 : decode code 194 = .ok (.iconst 2, 1) := by decide +kernel
theorem dW_195 : decode code 195 = .ok (.iadd, 1) := by decide +kernel
theorem dW_196 : decode code 196 = .ok (.iaload, 1) := by decide +kernel
theorem dW_197 : decode code 197 = .ok (.invokevirtual 23, 3) := by decide +kernel
theorem dW_200 : decode code 200 = .ok (.aload_n 2, 1) := by decide +kernel
theorem dW_201 : decode code 201 = .ok (.aload_n 0, 1) := by decide +kernel
theorem dW_202 : decode code 202 = .ok (.iload_n 3, 1) := by decide +kernel
theorem dW_203 : decode code 203 = .ok (.iconst 1, 1) := by decide +kernel
theorem dW_204 : decode code 204 = .ok (.iadd, 1) := by decide +kernel
theorem dW_205 : decode code 205 = .ok (.iaload, 1) := by decide +kernel
theorem dW_206 : decode code 206 = .ok (.aload_n 0, 1) := by decide +kernel
theorem dW_207 : decode code 207 = .ok (.iload_n 3, 1) := by decide +kernel
theorem dW_208 : decode code 208 = .ok (.iconst 2, 1) := by decide +kernel
theorem dW_209 : decode code 209 = .ok (.iadd, 1) := by decide +kernel
theorem dW_210 : decode code 210 = .ok (.iaload, 1) := by decide +kernel
theorem dW_211 : decode code 211 = .ok (.invokevirtual 26, 3) := by decide +kernel
theorem dW_214 : decode code 214 = .ok (.if_icmp .eq 341, 3) := by decide +kernel
theorem dW_217 : decode code 217 = .ok (.iconst 0, 1) := by decide +kernel
theorem dW_218 : decode code 218 = .ok (.ireturn, 1) := by decide +kernel
theorem dW_219 : decode code 219 = .ok (.aload_n 1, 1) := by decide +kernel
theorem dW_220 : decode code 220 = .ok (.aload_n 0, 1) := by decide +kernel
theorem dW_221 : decode code 221 = .ok (.iload_n 3, 1) := by decide +kernel
theorem dW_222 : decode code 222 = .ok (.iconst 1, 1) := by decide +kernel
theorem dW_223 : decode code 223 = .ok (.iadd, 1) := by decide +kernel
theorem dW_224 : decode code 224 = .ok (.iaload, 1) := by decide +kernel
theorem dW_225 : decode code 225 = .ok (.aload_n 0, 1) := by decide +kernel
theorem dW_226 : decode code 226 = .ok (.iload_n 3, 1) := by decide +kernel
theorem dW_227 : decode code 227 = .ok (.iconst 2, 1) := by decide +kernel
theorem dW_228 : decode code 228 = .ok (.iadd, 1) := by decide +kernel
theorem dW_229 : decode code 229 = .ok (.iaload, 1) := by decide +kernel
theorem dW_230 : decode code 230 = .ok (.invokevirtual 27, 3) := by decide +kernel
theorem dW_233 : decode code 233 = .ok (.aload_n 2, 1) := by decide +kernel
theorem dW_234 : decode code 234 = .ok (.aload_n 0, 1) := by decide +kernel
theorem dW_235 : decode code 235 = .ok (.iload_n 3, 1) := by decide +kernel
theorem dW_236 : decode code 236 = .ok (.iconst 1, 1) := by decide +kernel
theorem dW_237 : decode code 237 = .ok (.iadd, 1) := by decide +kernel
theorem dW_238 : decode code 238 = .ok (.iaload, 1) := by decide +kernel
theorem dW_239 : decode code 239 = .ok (.aload_n 0, 1) := by decide +kernel
theorem dW_240 : decode code 240 = .ok (.iload_n 3, 1) := by decide +kernel
theorem dW_241 : decode code 241 = .ok (.iconst 2, 1) := by decide +kernel
theorem dW_242 : decode code 242 = .ok (.iadd, 1) := by decide +kernel
theorem dW_243 : decode code 243 = .ok (.iaload, 1) := by decide +kernel
theorem dW_244 : decode code 244 = .ok (.invokevirtual 30, 3) := by decide +kernel
theorem dW_247 : decode code 247 = .ok (.if_icmp .eq 308, 3) := by decide +kernel
theorem dW_250 : decode code 250 = .ok (.iconst 0, 1) := by decide +kernel
theorem dW_251 : decode code 251 = .ok (.ireturn, 1) := by decide +kernel
theorem dW_252 : decode code 252 = .ok (.aload_n 1, 1) := by decide +kernel
theorem dW_253 : decode code 253 = .ok (.aload_n 0, 1) := by decide +kernel
theorem dW_254 : decode code 254 = .ok (.iload_n 3, 1) := by decide +kernel
theorem dW_255 : decode code 255 = .ok (.iconst 1, 1) := by decide +kernel
theorem dW_256 : decode code 256 = .ok (.iadd, 1) := by decide +kernel
theorem dW_257 : decode code 257 = .ok (.iaload, 1) := by decide +kernel
theorem dW_258 : decode code 258 = .ok (.invokevirtual 31, 3) := by decide +kernel
theorem dW_261 : decode code 261 = .ok (.aload_n 2, 1) := by decide +kernel
theorem dW_262 : decode code 262 = .ok (.aload_n 0, 1) := by decide +kernel
theorem dW_263 : decode code 263 = .ok (.iload_n 3, 1) := by decide +kernel
theorem dW_264 : decode code 264 = .ok (.iconst 1, 1) := by decide +kernel
theorem dW_265 : decode code 265 = .ok (.iadd, 1) := by decide +kernel
theorem dW_266 : decode code 266 = .ok (.iaload, 1) := by decide +kernel
theorem dW_267 : decode code 267 = .ok (.invokevirtual 35, 3) := by decide +kernel
theorem dW_270 : decode code 270 = .ok (.if_icmp .eq 285, 3) := by decide +kernel
theorem dW_273 : decode code 273 = .ok (.iconst 0, 1) := by decide +kernel
theorem dW_274 : decode code 274 = .ok (.ireturn, 1) := by decide +kernel
theorem dW_275 : decode code 275 = .ok (.aload_n 1, 1) := by decide +kernel
theorem dW_276 : decode code 276 = .ok (.aload_n 0, 1) := by decide +kernel
theorem dW_277 : decode code 277 = .ok (.iload_n 3, 1) := by decide +kernel
theorem dW_278 : decode code 278 = .ok (.iconst 1, 1) := by decide +kernel
theorem dW_279 : decode code 279 = .ok (.iadd, 1) := by decide +kernel
theorem dW_280 : decode code 280 = .ok (.iaload, 1) := by decide +kernel
theorem dW_281 : decode code 281 = .ok (.invokevirtual 36, 3) := by decide +kernel
theorem dW_284 : decode code 284 = .ok (.aload_n 2, 1) := by decide +kernel
theorem dW_285 : decode code 285 = .ok (.aload_n 0, 1) := by decide +kernel
theorem dW_286 : decode code 286 = .ok (.iload_n 3, 1) := by decide +kernel
theorem dW_287 : decode code 287 = .ok (.iconst 1, 1) := by decide +kernel
theorem dW_288 : decode code 288 = .ok (.iadd, 1) := by decide +kernel
theorem dW_289 : decode code 289 = .ok (.iaload, 1) := by decide +kernel
theorem dW_290 : decode code 290 = .ok (.invokevirtual 39, 3) := by decide +kernel
theorem dW_293 : decode code 293 = .ok (.if_icmp .eq 262, 3) := by decide +kernel
theorem dW_296 : decode code 296 = .ok (.iconst 0, 1) := by decide +kernel
theorem dW_297 : decode code 297 = .ok (.ireturn, 1) := by decide +kernel
theorem dW_298 : decode code 298 = .ok (.aload_n 1, 1) := by decide +kernel
theorem dW_299 : decode code 299 = .ok (.aload_n 0, 1) := by decide +kernel
theorem dW_300 : decode code 300 = .ok (.iload_n 3, 1) := by decide +kernel
theorem dW_301 : decode code 301 = .ok (.iconst 1, 1) := by decide +kernel
theorem dW_302 : decode code 302 = .ok (.iadd, 1) := by decide +kernel
theorem dW_303 : decode code 303 = .ok (.iaload, 1) := by decide +kernel
theorem dW_304 : decode code 304 = .ok (.aload_n 0, 1) := by decide +kernel
theorem dW_305 : decode code 305 = .ok (.iload_n 3, 1) := by decide +kernel
theorem dW_306 : decode code 306 = .ok (.iconst 2, 1) := by decide +kernel
theorem dW_307 : decode code 307 = .ok (.iadd, 1) := by decide +kernel
theorem dW_308 : decode code 308 = .ok (.iaload, 1) := by decide +kernel
theorem dW_309 : decode code 309 = .ok (.invokevirtual 40, 3) := by decide +kernel
theorem dW_312 : decode code 312 = .ok (.aload_n 2, 1) := by decide +kernel
theorem dW_313 : decode code 313 = .ok (.aload_n 0, 1) := by decide +kernel
theorem dW_314 : decode code 314 = .ok (.iload_n 3, 1) := by decide +kernel
theorem dW_315 : decode code 315 = .ok (.iconst 1, 1) := by decide +kernel
theorem dW_316 : decode code 316 = .ok (.iadd, 1) := by decide +kernel
theorem dW_317 : decode code 317 = .ok (.iaload, 1) := by decide +kernel
theorem dW_318 : decode code 318 = .ok (.aload_n 0, 1) := by decide +kernel
theorem dW_319 : decode code 319 = .ok (.iload_n 3, 1) := by decide +kernel
theorem dW_320 : decode code 320 = .ok (.iconst 2, 1) := by decide +kernel
theorem dW_321 : decode code 321 = .ok (.iadd, 1) := by decide +kernel
theorem dW_322 : decode code 322 = .ok (.iaload, 1) := by decide +kernel
theorem dW_323 : decode code 323 = .ok (.invokevirtual 43, 3) := by decide +kernel
theorem dW_326 : decode code 326 = .ok (.if_icmp .eq 229, 3) := by decide +kernel
theorem dW_329 : decode code 329 = .ok (.iconst 0, 1) := by decide +kernel
theorem dW_330 : decode code 330 = .ok (.ireturn, 1) := by decide +kernel
theorem dW_331 : decode code 331 = .ok (.aload_n 1, 1) := by decide +kernel
theorem dW_332 : decode code 332 = .ok (.aload_n 0, 1) := by decide +kernel
theorem dW_333 : decode code 333 = .ok (.iload_n 3, 1) := by decide +kernel
theorem dW_334 : decode code 334 = .ok (.iconst 1, 1) := by decide +kernel
theorem dW_335 : decode code 335 = .ok (.iadd, 1) := by decide +kernel
theorem dW_336 : decode code 336 = .ok (.iaload, 1) := by decide +kernel
theorem dW_337 : decode code 337 = .ok (.aload_n 0, 1) := by decide +kernel
theorem dW_338 : decode code 338 = .ok (.iload_n 3, 1) := by decide +kernel
theorem dW_339 : decode code 339 = .ok (.iconst 2, 1) := by decide +kernel
theorem dW_340 : decode code 340 = .ok (.iadd, 1) := by decide +kernel
theorem dW_341 : decode code 341 = .ok (.iaload, 1) := by decide +kernel
theorem dW_342 : decode code 342 = .ok (.invokevirtual 44, 3) := by decide +kernel
theorem dW_345 : decode code 345 = .ok (.aload_n 2, 1) := by decide +kernel
theorem dW_346 : decode code 346 = .ok (.aload_n 0, 1) := by decide +kernel
theorem dW_347 : decode code 347 = .ok (.iload_n 3, 1) := by decide +kernel
theorem dW_348 : decode code 348 = .ok (.iconst 1, 1) := by decide +kernel
theorem dW_349 : decode code 349 = .ok (.iadd, 1) := by decide +kernel
theorem dW_350 : decode code 350 = .ok (.iaload, 1) := by decide +kernel
theorem dW_351 : decode code 351 = .ok (.aload_n 0, 1) := by decide +kernel
theorem dW_352 : decode code 352 = .ok (.iload_n 3, 1) := by decide +kernel
theorem dW_353 : decode code 353 = .ok (.iconst 2, 1) := by decide +kernel
theorem dW_354 : decode code 354 = .ok (.iadd, 1) := by decide +kernel
theorem dW_355 : decode code 355 = .ok (.iaload, 1) := by decide +kernel
theorem dW_356 : decode code 356 = .ok (.invokevirtual 47, 3) := by decide +kernel
theorem dW_359 : decode code 359 = .ok (.if_icmp .eq 196, 3) := by decide +kernel
theorem dW_362 : decode code 362 = .ok (.iconst 0, 1) := by decide +kernel
theorem dW_363 : decode code 363 = .ok (.ireturn, 1) := by decide +kernel
theorem dW_364 : decode code 364 = .ok (.aload_n 1, 1) := by decide +kernel
theorem dW_365 : decode code 365 = .ok (.aload_n 0, 1) := by decide +kernel
theorem dW_366 : decode code 366 = .ok (.iload_n 3, 1) := by decide +kernel
theorem dW_367 : decode code 367 = .ok (.iconst 1, 1) := by decide +kernel
theorem dW_368 : decode code 368 = .ok (.iadd, 1) := by decide +kernel
theorem dW_369 : decode code 369 = .ok (.iaload, 1) := by decide +kernel
theorem dW_370 : decode code 370 = .ok (.aload_n 0, 1) := by decide +kernel
theorem dW_371 : decode code 371 = .ok (.iload_n 3, 1) := by decide +kernel
theorem dW_372 : decode code 372 = .ok (.iconst 2, 1) := by decide +kernel
theorem dW_373 : decode code 373 = .ok (.iadd, 1) := by decide +kernel
theorem dW_374 : decode code 374 = .ok (.iaload, 1) := by decide +kernel
theorem dW_375 : decode code 375 = .ok (.invokevirtual 48, 3) := by decide +kernel
theorem dW_378 : decode code 378 = .ok (.aload_n 2, 1) := by decide +kernel
theorem dW_379 : decode code 379 = .ok (.aload_n 0, 1) := by decide +kernel
theorem dW_380 : decode code 380 = .ok (.iload_n 3, 1) := by decide +kernel
theorem dW_381 : decode code 381 = .ok (.iconst 1, 1) := by decide +kernel
theorem dW_382 : decode code 382 = .ok (.iadd, 1) := by decide +kernel
theorem dW_383 : decode code 383 = .ok (.iaload, 1) := by decide +kernel
theorem dW_384 : decode code 384 = .ok (.aload_n 0, 1) := by decide +kernel
theorem dW_385 : decode code 385 = .ok (.iload_n 3, 1) := by decide +kernel
theorem dW_386 : decode code 386 = .ok (.iconst 2, 1) := by decide +kernel
theorem dW_387 : decode code 387 = .ok (.iadd, 1) := by decide +kernel
theorem dW_388 : decode code 388 = .ok (.iaload, 1) := by decide +kernel
theorem dW_389 : decode code 389 = .ok (.invokevirtual 52, 3) := by decide +kernel
theorem dW_392 : decode code 392 = .ok (.if_icmp .eq 163, 3) := by decide +kernel
theorem dW_395 : decode code 395 = .ok (.iconst 0, 1) := by decide +kernel
theorem dW_396 : decode code 396 = .ok (.ireturn, 1) := by decide +kernel
theorem dW_397 : decode code 397 = .ok (.aload_n 1, 1) := by decide +kernel
theorem dW_398 : decode code 398 = .ok (.invokevirtual 53, 3) := by decide +kernel
theorem dW_401 : decode code 401 = .ok (.aload_n 2, 1) := by decide +kernel
theorem dW_402 : decode code 402 = .ok (.invokevirtual 57, 3) := by decide +kernel
theorem dW_405 : decode code 405 = .ok (.if_icmp .eq 150, 3) := by decide +kernel
theorem dW_408 : decode code 408 = .ok (.iconst 0, 1) := by decide +kernel
theorem dW_409 : decode code 409 = .ok (.ireturn, 1) := by decide +kernel
theorem dW_410 : decode code 410 = .ok (.aload_n 1, 1) := by decide +kernel
theorem dW_411 : decode code 411 = .ok (.aload_n 0, 1) := by decide +kernel
theorem dW_412 : decode code 412 = .ok (.iload_n 3, 1) := by decide +kernel
theorem dW_413 : decode code 413 = .ok (.iconst 1, 1) := by decide +kernel
theorem dW_414 : decode code 414 = .ok (.iadd, 1) := by decide +kernel
theorem dW_415 : decode code 415 = .ok (.iaload, 1) := by decide +kernel
theorem dW_416 : decode code 416 = .ok (.invokevirtual 58, 3) := by decide +kernel
theorem dW_419 : decode code 419 = .ok (.aload_n 2, 1) := by decide +kernel
theorem dW_420 : decode code 420 = .ok (.aload_n 0, 1) := by decide +kernel
theorem dW_421 : decode code 421 = .ok (.iload_n 3, 1) := by decide +kernel
theorem dW_422 : decode code 422 = .ok (.iconst 1, 1) := by decide +kernel
theorem dW_423 : decode code 423 = .ok (.iadd, 1) := by decide +kernel
theorem dW_424 : decode code 424 = .ok (.iaload, 1) := by decide +kernel
theorem dW_425 : decode code 425 = .ok (.invokevirtual 61, 3) := by decide +kernel
theorem dW_428 : decode code 428 = .ok (.if_icmp .eq 127, 3) := by decide +kernel
theorem dW_431 : decode code 431 = .ok (.iconst 0, 1) := by decide +kernel
theorem dW_432 : decode code 432 = .ok (.ireturn, 1) := by decide +kernel
theorem dW_433 : decode code 433 = .ok (.aload_n 1, 1) := by decide +kernel
theorem dW_434 : decode code 434 = .ok (.aload_n 0, 1) := by decide +kernel
theorem dW_435 : decode code 435 = .ok (.iload_n 3, 1) := by decide +kernel
theorem dW_436 : decode code 436 = .ok (.iconst 1, 1) := by decide +kernel
theorem dW_437 : decode code 437 = .ok (.iadd, 1) := by decide +kernel
theorem dW_438 : decode code 438 = .ok (.iaload, 1) := by decide +kernel
theorem dW_439 : decode code 439 = .ok (.aload_n 0, 1) := by decide +kernel
theorem dW_440 : decode code 440 = .ok (.iload_n 3, 1) := by decide +kernel
theorem dW_441 : decode code 441 = .ok (.iconst 2, 1) := by decide +kernel
theorem dW_442 : decode code 442 = .ok (.iadd, 1) := by decide +kernel
theorem dW_443 : decode code 443 = .ok (.iaload, 1) := by decide +kernel
theorem dW_444 : decode code 444 = .ok (.aload_n 0, 1) := by decide +kernel
theorem dW_445 : decode code 445 = .ok (.iload_n 3, 1) := by decide +kernel
theorem dW_446 : decode code 446 = .ok (.iconst 3, 1) := by decide +kernel
theorem dW_447 : decode code 447 = .ok (.iadd, 1) := by decide +kernel
theorem dW_448 : decode code 448 = .ok (.iaload, 1) := by decide +kernel
theorem dW_449 : decode code 449 = .ok (.invokevirtual 62, 3) := by decide +kernel
theorem dW_452 : decode code 452 = .ok (.aload_n 2, 1) := by decide +kernel
theorem dW_453 : decode code 453 = .ok (.aload_n 0, 1) := by decide +kernel
theorem dW_454 : decode code 454 = .ok (.iload_n 3, 1) := by decide +kernel
theorem dW_455 : decode code 455 = .ok (.iconst 1, 1) := by decide +kernel
theorem dW_456 : decode code 456 = .ok (.iadd, 1) := by decide +kernel
theorem dW_457 : decode code 457 = .ok (.iaload, 1) := by decide +kernel
theorem dW_458 : decode code 458 = .ok (.aload_n 0, 1) := by decide +kernel
theorem dW_459 : decode code 459 = .ok (.iload_n 3, 1) := by decide +kernel
theorem dW_460 : decode code 460 = .ok (.iconst 2, 1) := by decide +kernel
theorem dW_461 : decode code 461 = .ok (.iadd, 1) := by decide +kernel
theorem dW_462 : decode code 462 = .ok (.iaload, 1) := by decide +kernel
theorem dW_463 : decode code 463 = .ok (.aload_n 0, 1) := by decide +kernel
theorem dW_464 : decode code 464 = .ok (.iload_n 3, 1) := by decide +kernel
theorem dW_465 : decode code 465 = .ok (.iconst 3, 1) := by decide +kernel
theorem dW_466 : decode code 466 = .ok (.iadd, 1) := by decide +kernel
theorem dW_467 : decode code 467 = .ok (.iaload, 1) := by decide +kernel
theorem dW_468 : decode code 468 = .ok (.invokevirtual 66, 3) := by decide +kernel
theorem dW_471 : decode code 471 = .ok (.if_icmp .eq 84, 3) := by decide +kernel
theorem dW_474 : decode code 474 = .ok (.iconst 0, 1) := by decide +kernel
theorem dW_475 : decode code 475 = .ok (.ireturn, 1) := by decide +kernel
theorem dW_476 : decode code 476 = .ok (.aload_n 1, 1) := by decide +kernel
theorem dW_477 : decode code 477 = .ok (.aload_n 0, 1) := by decide +kernel
theorem dW_478 : decode code 478 = .ok (.iload_n 3, 1) := by decide +kernel
theorem dW_479 : decode code 479 = .ok (.iconst 1, 1) := by decide +kernel
theorem dW_480 : decode code 480 = .ok (.iadd, 1) := by decide +kernel
theorem dW_481 : decode code 481 = .ok (.iaload, 1) := by decide +kernel
theorem dW_482 : decode code 482 = .ok (.aload_n 0, 1) := by decide +kernel
theorem dW_483 : decode code 483 = .ok (.iload_n 3, 1) := by decide +kernel
theorem dW_484 : decode code 484 = .ok (.iconst 2, 1) := by decide +kernel
theorem dW_485 : decode code 485 = .ok (.iadd, 1) := by decide +kernel
theorem dW_486 : decode code 486 = .ok (.iaload, 1) := by decide +kernel
theorem dW_487 : decode code 487 = .ok (.invokevirtual 67, 3) := by decide +kernel
theorem dW_490 : decode code 490 = .ok (.aload_n 2, 1) := by decide +kernel
theorem dW_491 : decode code 491 = .ok (.aload_n 0, 1) := by decide +kernel
theorem dW_492 : decode code 492 = .ok (.iload_n 3, 1) := by decide +kernel
theorem dW_493 : decode code 493 = .ok (.iconst 1, 1) := by decide +kernel
theorem dW_494 : decode code 494 = .ok (.iadd, 1) := by decide +kernel
theorem dW_495 : decode code 495 = .ok (.iaload, 1) := by decide +kernel
theorem dW_496 : decode code 496 = .ok (.aload_n 0, 1) := by decide +kernel
theorem dW_497 : decode code 497 = .ok (.iload_n 3, 1) := by decide +kernel
theorem dW_498 : decode code 498 = .ok (.iconst 2, 1) := by decide +kernel
theorem dW_499 : decode code 499 = .ok (.iadd, 1) := by decide +kernel
theorem dW_500 : decode code 500 = .ok (.iaload, 1) := by decide +kernel
theorem dW_501 : decode code 501 = .ok (.invokevirtual 70, 3) := by decide +kernel
theorem dW_504 : decode code 504 = .ok (.if_icmp .eq 51, 3) := by decide +kernel
theorem dW_507 : decode code 507 = .ok (.iconst 0, 1) := by decide +kernel
theorem dW_508 : decode code 508 = .ok (.ireturn, 1) := by decide +kernel
theorem dW_509 : decode code 509 = .ok (.aload_n 1, 1) := by decide +kernel
theorem dW_510 : decode code 510 = .ok (.aload_n 0, 1) := by decide +kernel
theorem dW_511 : decode code 511 = .ok (.iload_n 3, 1) := by decide +kernel
theorem dW_512 : decode code 512 = .ok (.iconst 1, 1) := by decide +kernel
theorem dW_513 : decode code 513 = .ok (.iadd, 1) := by decide +kernel
theorem dW_514 : decode code 514 = .ok (.iaload, 1) := by decide +kernel
theorem dW_515 : decode code 515 = .ok (.invokevirtual 71, 3) := by decide +kernel
theorem dW_518 : decode code 518 = .ok (.aload_n 2, 1) := by decide +kernel
theorem dW_519 : decode code 519 = .ok (.aload_n 0, 1) := by decide +kernel
theorem dW_520 : decode code 520 = .ok (.iload_n 3, 1) := by decide +kernel
theorem dW_521 : decode code 521 = .ok (.iconst 1, 1) := by decide +kernel
theorem dW_522 : decode code 522 = .ok (.iadd, 1) := by decide +kernel
theorem dW_523 : decode code 523 = .ok (.iaload, 1) := by decide +kernel
theorem dW_524 : decode code 524 = .ok (.invokevirtual 74, 3) := by decide +kernel
theorem dW_527 : decode code 527 = .ok (.if_icmp .eq 28, 3) := by decide +kernel
theorem dW_530 : decode code 530 = .ok (.iconst 0, 1) := by decide +kernel
theorem dW_531 : decode code 531 = .ok (.ireturn, 1) := by decide +kernel
theorem dW_532 : decode code 532 = .ok (.aload_n 1, 1) := by decide +kernel
theorem dW_533 : decode code 533 = .ok (.aload_n 0, 1) := by decide +kernel
theorem dW_534 : decode code 534 = .ok (.iload_n 3, 1) := by decide +kernel
theorem dW_535 : decode code 535 = .ok (.iconst 1, 1) := by decide +kernel
theorem dW_536 : decode code 536 = .ok (.iadd, 1) := by decide +kernel
theorem dW_537 : decode code 537 = .ok (.iaload, 1) := by decide +kernel
theorem dW_538 : decode code 538 = .ok (.invokevirtual 75, 3) := by decide +kernel
theorem dW_541 : decode code 541 = .ok (.aload_n 2, 1) := by decide +kernel
theorem dW_542 : decode code 542 = .ok (.aload_n 0, 1) := by decide +kernel
theorem dW_543 : decode code 543 = .ok (.iload_n 3, 1) := by decide +kernel
theorem dW_544 : decode code 544 = .ok (.iconst 1, 1) := by decide +kernel
theorem dW_545 : decode code 545 = .ok (.iadd, 1) := by decide +kernel
theorem dW_546 : decode code 546 = .ok (.iaload, 1) := by decide +kernel
theorem dW_547 : decode code 547 = .ok (.invokevirtual 78, 3) := by decide +kernel
theorem dW_550 : decode code 550 = .ok (.if_icmp .eq 5, 3) := by decide +kernel
theorem dW_553 : decode code 553 = .ok (.iconst 0, 1) := by decide +kernel
theorem dW_554 : decode code 554 = .ok (.ireturn, 1) := by decide +kernel
theorem dW_555 : decode code 555 = .ok (.iinc 3 4, 3) := by decide +kernel
theorem dW_558 : decode code 558 = .ok (.goto (-540), 3) := by decide +kernel
theorem dW_561 : decode code 561 = .ok (.iconst 1, 1) := by decide +kernel
theorem dW_562 : decode code 562 = .ok (.ireturn, 1) := by decide +kernel
