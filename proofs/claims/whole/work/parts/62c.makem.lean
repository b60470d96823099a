/-! 62c: constructor of the model -/
def own0 (n : Nat) : Nat → Int32 := fun i => if i < n then -1 else 0
theorem own0_1 (n : Nat) : upd (own0 n) n (-1) = own0 (n + 1) := by
  funext i
  by_cases h : i = n
  · subst h
    simp [upd, own0]
  · simp only [upd, if_neg h, own0]
    by_cases h2 : i < n
    · rw [if_pos h2, if_pos (by omega)]
    · rw [if_neg h2, if_neg (by omega)]
def m0 (q n : Nat) : List va_E := .inr (12, [.int 0, .int 0, .int 0, .int 0, .int 0, .int 0, .ref (q + 1), .ref (q + 2), .ref (q + 3), .ref (q + 4), .ref (q + 5), .ref (q + 6), .ref (q + 7), .ref (q + 8), .ref (q + 9), .ref (q + 10), .ref (q + 11), .ref (q + 12), .ref (q + 13), .ref (q + 14), .ref (q + 15), .ref (q + 16), .int 0, .int 0, .int 0, .int 0, .int 0, .int 0, .int 0, .int 0, .ref (q + 17), .ref (q + 18), .ref (q + 19), .ref (q + 20), .ref (q + 21), .ref (q + 22), .ref (q + 23), .ref (q + 24), .ref (q + 25), .ref (q + 26), .int 0, .ref (q + 27), .ref (q + 28), .ref (q + 29), .ref (q + 30), .ref (q + 31), .ref (q + 32), .ref (q + 33), .ref (q + 34), .ref (q + 35), .ref (q + 36), .ref (q + 37), .ref (q + 38), .ref (q + 39), .ref (q + 40), .ref (q + 41), .ref (q + 42), .ref (q + 43), .ref (q + 44), .ref (q + 45), .int 0, .ref (q + 46), .ref (q + 47), .ref (q + 48), .ref (q + 49), .ref (q + 50), .ref (q + 51), .long 0, .ref (q + 52), .ref (q + 53), .ref (q + 54), .int 0, .int 0]) :: [.inl (0, 16, .inl (fun _ => 0)), .inl (0, 16, .inl (own0 n)), .inl (0, 24, .inl (fun _ => 0)), .inl (0, 24, .inl (fun _ => 0)), .inl (0, 24, .inl (fun _ => 0)), .inl (0, 80, .inl (fun _ => 0)), .inl (0, 80, .inl (fun _ => 0)), .inl (0, 400, .inl (fun _ => 0)), .inl (0, 400, .inl (fun _ => 0)), .inl (0, 400, .inl (fun _ => 0)), .inl (0, 400, .inl (fun _ => 0)), .inl (0, 400, .inl (fun _ => 0)), .inl (0, 400, .inl (fun _ => 0)), .inl (0, 400, .inl (fun _ => 0)), .inl (0, 400, .inl (fun _ => 0)), .inl (0, 400, .inl (fun _ => 0)), .inl (3, 400, .inl (fun _ => 0)), .inl (0, 3000, .inl (fun _ => 0)), .inl (0, 3000, .inl (fun _ => 0)), .inl (0, 10, .inl (fun _ => 0)), .inl (0, 120, .inl (fun _ => 0)), .inl (0, 120, .inl (fun _ => 0)), .inl (0, 120, .inl (fun _ => 0)), .inl (0, 402, .inl (fun _ => 0)), .inl (1, 10, .inr (.inl (fun _ => 0))), .inl (1, 300, .inr (.inl (fun _ => 0))), .inl (0, 400, .inl (fun _ => 0)), .inl (0, 400, .inl (fun _ => 0)), .inl (0, 400, .inl (fun _ => 0)), .inl (0, 400, .inl (fun _ => 0)), .inl (0, 400, .inl (fun _ => 0)), .inl (0, 400, .inl (fun _ => 0)), .inl (0, 400, .inl (fun _ => 0)), .inl (1, 400, .inr (.inl (fun _ => 0))), .inl (1, 400, .inr (.inl (fun _ => 0))), .inl (0, 256, .inl (fun _ => 0)), .inl (0, 256, .inl (fun _ => 0)), .inl (0, 256, .inl (fun _ => 0)), .inl (1, 256, .inr (.inl (fun _ => 0))), .inl (1, 256, .inr (.inl (fun _ => 0))), .inl (1, 256, .inr (.inl (fun _ => 0))), .inl (1, 256, .inr (.inl (fun _ => 0))), .inl (1, 256, .inr (.inl (fun _ => 0))), .inl (0, 256, .inl (fun _ => 0)), .inl (0, 256, .inl (fun _ => 0)), .inl (0, 9, .inl (fun _ => 0)), .inl (0, 9, .inl (fun _ => 0)), .inl (0, 9, .inl (fun _ => 0)), .inl (0, 16, .inl (fun _ => 0)), .inl (1, 62, .inr (.inl (fun _ => 0))), .inl (2, 400, .inl (fun _ => 0)), .inl (0, 15600, .inl (fun _ => 0)), .inl (0, 6, .inl (fun _ => 0)), .inl (2, 4, .inl (fun _ => 0))]
theorem dX12_init_0 : decode cX12_init 0 = .ok (.aload_n 0, 1) := by decide +kernel
theorem dX12_init_1 : decode cX12_init 1 = .ok (.invokespecial 1, 3) := by decide +kernel
theorem dX12_init_4 : decode cX12_init 4 = .ok (.aload_n 0, 1) := by decide +kernel
theorem dX12_init_5 : decode cX12_init 5 = .ok (.bipush 16, 2) := by decide +kernel
theorem dX12_init_7 : decode cX12_init 7 = .ok (.newarray .int, 2) := by decide +kernel
theorem dX12_init_9 : decode cX12_init 9 = .ok (.putfield 9, 3) := by decide +kernel
theorem dX12_init_12 : decode cX12_init 12 = .ok (.aload_n 0, 1) := by decide +kernel
theorem dX12_init_13 : decode cX12_init 13 = .ok (.bipush 16, 2) := by decide +kernel
theorem dX12_init_15 : decode cX12_init 15 = .ok (.newarray .int, 2) := by decide +kernel
theorem dX12_init_17 : decode cX12_init 17 = .ok (.putfield 13, 3) := by decide +kernel
theorem dX12_init_20 : decode cX12_init 20 = .ok (.aload_n 0, 1) := by decide +kernel
theorem dX12_init_21 : decode cX12_init 21 = .ok (.bipush 24, 2) := by decide +kernel
theorem dX12_init_23 : decode cX12_init 23 = .ok (.newarray .int, 2) := by decide +kernel
theorem dX12_init_25 : decode cX12_init 25 = .ok (.putfield 16, 3) := by decide +kernel
theorem dX12_init_28 : decode cX12_init 28 = .ok (.aload_n 0, 1) := by decide +kernel
theorem dX12_init_29 : decode cX12_init 29 = .ok (.bipush 24, 2) := by decide +kernel
theorem dX12_init_31 : decode cX12_init 31 = .ok (.newarray .int, 2) := by decide +kernel
theorem dX12_init_33 : decode cX12_init 33 = .ok (.putfield 19, 3) := by decide +kernel
theorem dX12_init_36 : decode cX12_init 36 = .ok (.aload_n 0, 1) := by decide +kernel
theorem dX12_init_37 : decode cX12_init 37 = .ok (.bipush 24, 2) := by decide +kernel
theorem dX12_init_39 : decode cX12_init 39 = .ok (.newarray .int, 2) := by decide +kernel
theorem dX12_init_41 : decode cX12_init 41 = .ok (.putfield 22, 3) := by decide +kernel
theorem dX12_init_44 : decode cX12_init 44 = .ok (.aload_n 0, 1) := by decide +kernel
theorem dX12_init_45 : decode cX12_init 45 = .ok (.bipush 80, 2) := by decide +kernel
theorem dX12_init_47 : decode cX12_init 47 = .ok (.newarray .int, 2) := by decide +kernel
theorem dX12_init_49 : decode cX12_init 49 = .ok (.putfield 25, 3) := by decide +kernel
theorem dX12_init_52 : decode cX12_init 52 = .ok (.aload_n 0, 1) := by decide +kernel
theorem dX12_init_53 : decode cX12_init 53 = .ok (.bipush 80, 2) := by decide +kernel
theorem dX12_init_55 : decode cX12_init 55 = .ok (.newarray .int, 2) := by decide +kernel
theorem dX12_init_57 : decode cX12_init 57 = .ok (.putfield 28, 3) := by decide +kernel
theorem dX12_init_60 : decode cX12_init 60 = .ok (.aload_n 0, 1) := by decide +kernel
theorem dX12_init_61 : decode cX12_init 61 = .ok (.sipush 400, 3) := by decide +kernel
theorem dX12_init_64 : decode cX12_init 64 = .ok (.newarray .int, 2) := by decide +kernel
theorem dX12_init_66 : decode cX12_init 66 = .ok (.putfield 31, 3) := by decide +kernel
theorem dX12_init_69 : decode cX12_init 69 = .ok (.aload_n 0, 1) := by decide +kernel
theorem dX12_init_70 : decode cX12_init 70 = .ok (.sipush 400, 3) := by decide +kernel
theorem dX12_init_73 : decode cX12_init 73 = .ok (.newarray .int, 2) := by decide +kernel
theorem dX12_init_75 : decode cX12_init 75 = .ok (.putfield 34, 3) := by decide +kernel
theorem dX12_init_78 : decode cX12_init 78 = .ok (.aload_n 0, 1) := by decide +kernel
theorem dX12_init_79 : decode cX12_init 79 = .ok (.sipush 400, 3) := by decide +kernel
theorem dX12_init_82 : decode cX12_init 82 = .ok (.newarray .int, 2) := by decide +kernel
theorem dX12_init_84 : decode cX12_init 84 = .ok (.putfield 37, 3) := by decide +kernel
theorem dX12_init_87 : decode cX12_init 87 = .ok (.aload_n 0, 1) := by decide +kernel
theorem dX12_init_88 : decode cX12_init 88 = .ok (.sipush 400, 3) := by decide +kernel
theorem dX12_init_91 : decode cX12_init 91 = .ok (.newarray .int, 2) := by decide +kernel
theorem dX12_init_93 : decode cX12_init 93 = .ok (.putfield 40, 3) := by decide +kernel
theorem dX12_init_96 : decode cX12_init 96 = .ok (.aload_n 0, 1) := by decide +kernel
theorem dX12_init_97 : decode cX12_init 97 = .ok (.sipush 400, 3) := by decide +kernel
theorem dX12_init_100 : decode cX12_init 100 = .ok (.newarray .int, 2) := by decide +kernel
theorem dX12_init_102 : decode cX12_init 102 = .ok (.putfield 43, 3) := by decide +kernel
theorem dX12_init_105 : decode cX12_init 105 = .ok (.aload_n 0, 1) := by decide +kernel
theorem dX12_init_106 : decode cX12_init 106 = .ok (.sipush 400, 3) := by decide +kernel
theorem dX12_init_109 : decode cX12_init 109 = .ok (.newarray .int, 2) := by decide +kernel
theorem dX12_init_111 : decode cX12_init 111 = .ok (.putfield 46, 3) := by decide +kernel
theorem dX12_init_114 : decode cX12_init 114 = .ok (.aload_n 0, 1) := by decide +kernel
theorem dX12_init_115 : decode cX12_init 115 = .ok (.sipush 400, 3) := by decide +kernel
theorem dX12_init_118 : decode cX12_init 118 = .ok (.newarray .int, 2) := by decide +kernel
theorem dX12_init_120 : decode cX12_init 120 = .ok (.putfield 49, 3) := by decide +kernel
theorem dX12_init_123 : decode cX12_init 123 = .ok (.aload_n 0, 1) := by decide +kernel
theorem dX12_init_124 : decode cX12_init 124 = .ok (.sipush 400, 3) := by decide +kernel
theorem dX12_init_127 : decode cX12_init 127 = .ok (.newarray .int, 2) := by decide +kernel
theorem dX12_init_129 : decode cX12_init 129 = .ok (.putfield 52, 3) := by decide +kernel
theorem dX12_init_132 : decode cX12_init 132 = .ok (.aload_n 0, 1) := by decide +kernel
theorem dX12_init_133 : decode cX12_init 133 = .ok (.sipush 400, 3) := by decide +kernel
theorem dX12_init_136 : decode cX12_init 136 = .ok (.newarray .int, 2) := by decide +kernel
theorem dX12_init_138 : decode cX12_init 138 = .ok (.putfield 55, 3) := by decide +kernel
theorem dX12_init_141 : decode cX12_init 141 = .ok (.aload_n 0, 1) := by decide +kernel
theorem dX12_init_142 : decode cX12_init 142 = .ok (.sipush 400, 3) := by decide +kernel
theorem dX12_init_145 : decode cX12_init 145 = .ok (.newarray .byte, 2) := by decide +kernel
theorem dX12_init_147 : decode cX12_init 147 = .ok (.putfield 58, 3) := by decide +kernel
theorem dX12_init_150 : decode cX12_init 150 = .ok (.aload_n 0, 1) := by decide +kernel
theorem dX12_init_151 : decode cX12_init 151 = .ok (.sipush 3000, 3) := by decide +kernel
theorem dX12_init_154 : decode cX12_init 154 = .ok (.newarray .int, 2) := by decide +kernel
theorem dX12_init_156 : decode cX12_init 156 = .ok (.putfield 62, 3) := by decide +kernel
theorem dX12_init_159 : decode cX12_init 159 = .ok (.aload_n 0, 1) := by decide +kernel
theorem dX12_init_160 : decode cX12_init 160 = .ok (.sipush 3000, 3) := by decide +kernel
theorem dX12_init_163 : decode cX12_init 163 = .ok (.newarray .int, 2) := by decide +kernel
theorem dX12_init_165 : decode cX12_init 165 = .ok (.putfield 65, 3) := by decide +kernel
theorem dX12_init_168 : decode cX12_init 168 = .ok (.aload_n 0, 1) := by decide +kernel
theorem dX12_init_169 : decode cX12_init 169 = .ok (.bipush 10, 2) := by decide +kernel
theorem dX12_init_171 : decode cX12_init 171 = .ok (.newarray .int, 2) := by decide +kernel
theorem dX12_init_173 : decode cX12_init 173 = .ok (.putfield 68, 3) := by decide +kernel
theorem dX12_init_176 : decode cX12_init 176 = .ok (.aload_n 0, 1) := by decide +kernel
theorem dX12_init_177 : decode cX12_init 177 = .ok (.bipush 120, 2) := by decide +kernel
theorem dX12_init_179 : decode cX12_init 179 = .ok (.newarray .int, 2) := by decide +kernel
theorem dX12_init_181 : decode cX12_init 181 = .ok (.putfield 71, 3) := by decide +kernel
theorem dX12_init_184 : decode cX12_init 184 = .ok (.aload_n 0, 1) := by decide +kernel
theorem dX12_init_185 : decode cX12_init 185 = .ok (.bipush 120, 2) := by decide +kernel
theorem dX12_init_187 : decode cX12_init 187 = .ok (.newarray .int, 2) := by decide +kernel
theorem dX12_init_189 : decode cX12_init 189 = .ok (.putfield 74, 3) := by decide +kernel
theorem dX12_init_192 : decode cX12_init 192 = .ok (.aload_n 0, 1) := by decide +kernel
theorem dX12_init_193 : decode cX12_init 193 = .ok (.bipush 120, 2) := by decide +kernel
theorem dX12_init_195 : decode cX12_init 195 = .ok (.newarray .int, 2) := by decide +kernel
theorem dX12_init_197 : decode cX12_init 197 = .ok (.putfield 77, 3) := by decide +kernel
theorem dX12_init_200 : decode cX12_init 200 = .ok (.aload_n 0, 1) := by decide +kernel
theorem dX12_init_201 : decode cX12_init 201 = .ok (.sipush 402, 3) := by decide +kernel
theorem dX12_init_204 : decode cX12_init 204 = .ok (.newarray .int, 2) := by decide +kernel
theorem dX12_init_206 : decode cX12_init 206 = .ok (.putfield 80, 3) := by decide +kernel
theorem dX12_init_209 : decode cX12_init 209 = .ok (.aload_n 0, 1) := by decide +kernel
theorem dX12_init_210 : decode cX12_init 210 = .ok (.bipush 10, 2) := by decide +kernel
theorem dX12_init_212 : decode cX12_init 212 = .ok (.newarray .long, 2) := by decide +kernel
theorem dX12_init_214 : decode cX12_init 214 = .ok (.putfield 83, 3) := by decide +kernel
theorem dX12_init_217 : decode cX12_init 217 = .ok (.aload_n 0, 1) := by decide +kernel
theorem dX12_init_218 : decode cX12_init 218 = .ok (.sipush 300, 3) := by decide +kernel
theorem dX12_init_221 : decode cX12_init 221 = .ok (.newarray .long, 2) := by decide +kernel
theorem dX12_init_223 : decode cX12_init 223 = .ok (.putfield 87, 3) := by decide +kernel
theorem dX12_init_226 : decode cX12_init 226 = .ok (.aload_n 0, 1) := by decide +kernel
theorem dX12_init_227 : decode cX12_init 227 = .ok (.sipush 400, 3) := by decide +kernel
theorem dX12_init_230 : decode cX12_init 230 = .ok (.newarray .int, 2) := by decide +kernel
theorem dX12_init_232 : decode cX12_init 232 = .ok (.putfield 90, 3) := by decide +kernel
theorem dX12_init_235 : decode cX12_init 235 = .ok (.aload_n 0, 1) := by decide +kernel
theorem dX12_init_236 : decode cX12_init 236 = .ok (.sipush 400, 3) := by decide +kernel
theorem dX12_init_239 : decode cX12_init 239 = .ok (.newarray .int, 2) := by decide +kernel
theorem dX12_init_241 : decode cX12_init 241 = .ok (.putfield 93, 3) := by decide +kernel
theorem dX12_init_244 : decode cX12_init 244 = .ok (.aload_n 0, 1) := by decide +kernel
theorem dX12_init_245 : decode cX12_init 245 = .ok (.sipush 400, 3) := by decide +kernel
theorem dX12_init_248 : decode cX12_init 248 = .ok (.newarray .int, 2) := by decide +kernel
theorem dX12_init_250 : decode cX12_init 250 = .ok (.putfield 96, 3) := by decide +kernel
theorem dX12_init_253 : decode cX12_init 253 = .ok (.aload_n 0, 1) := by decide +kernel
theorem dX12_init_254 : decode cX12_init 254 = .ok (.sipush 400, 3) := by decide +kernel
theorem dX12_init_257 : decode cX12_init 257 = .ok (.newarray .int, 2) := by decide +kernel
theorem dX12_init_259 : decode cX12_init 259 = .ok (.putfield 99, 3) := by decide +kernel
theorem dX12_init_262 : decode cX12_init 262 = .ok (.aload_n 0, 1) := by decide +kernel
theorem dX12_init_263 : decode cX12_init 263 = .ok (.sipush 400, 3) := by decide +kernel
theorem dX12_init_266 : decode cX12_init 266 = .ok (.newarray .int, 2) := by decide +kernel
theorem dX12_init_268 : decode cX12_init 268 = .ok (.putfield 102, 3) := by decide +kernel
theorem dX12_init_271 : decode cX12_init 271 = .ok (.aload_n 0, 1) := by decide +kernel
theorem dX12_init_272 : decode cX12_init 272 = .ok (.sipush 400, 3) := by decide +kernel
theorem dX12_init_275 : decode cX12_init 275 = .ok (.newarray .int, 2) := by decide +kernel
theorem dX12_init_277 : decode cX12_init 277 = .ok (.putfield 105, 3) := by decide +kernel
theorem dX12_init_280 : decode cX12_init 280 = .ok (.aload_n 0, 1) := by decide +kernel
theorem dX12_init_281 : decode cX12_init 281 = .ok (.sipush 400, 3) := by decide +kernel
theorem dX12_init_284 : decode cX12_init 284 = .ok (.newarray .int, 2) := by decide +kernel
theorem dX12_init_286 : decode cX12_init 286 = .ok (.putfield 108, 3) := by decide +kernel
theorem dX12_init_289 : decode cX12_init 289 = .ok (.aload_n 0, 1) := by decide +kernel
theorem dX12_init_290 : decode cX12_init 290 = .ok (.sipush 400, 3) := by decide +kernel
theorem dX12_init_293 : decode cX12_init 293 = .ok (.newarray .long, 2) := by decide +kernel
theorem dX12_init_295 : decode cX12_init 295 = .ok (.putfield 111, 3) := by decide +kernel
theorem dX12_init_298 : decode cX12_init 298 = .ok (.aload_n 0, 1) := by decide +kernel
theorem dX12_init_299 : decode cX12_init 299 = .ok (.sipush 400, 3) := by decide +kernel
theorem dX12_init_302 : decode cX12_init 302 = .ok (.newarray .long, 2) := by decide +kernel
theorem dX12_init_304 : decode cX12_init 304 = .ok (.putfield 114, 3) := by decide +kernel
theorem dX12_init_307 : decode cX12_init 307 = .ok (.aload_n 0, 1) := by decide +kernel
theorem dX12_init_308 : decode cX12_init 308 = .ok (.sipush 256, 3) := by decide +kernel
theorem dX12_init_311 : decode cX12_init 311 = .ok (.newarray .int, 2) := by decide +kernel
theorem dX12_init_313 : decode cX12_init 313 = .ok (.putfield 117, 3) := by decide +kernel
theorem dX12_init_316 : decode cX12_init 316 = .ok (.aload_n 0, 1) := by decide +kernel
theorem dX12_init_317 : decode cX12_init 317 = .ok (.sipush 256, 3) := by decide +kernel
theorem dX12_init_320 : decode cX12_init 320 = .ok (.newarray .int, 2) := by decide +kernel
theorem dX12_init_322 : decode cX12_init 322 = .ok (.putfield 120, 3) := by decide +kernel
theorem dX12_init_325 : decode cX12_init 325 = .ok (.aload_n 0, 1) := by decide +kernel
theorem dX12_init_326 : decode cX12_init 326 = .ok (.sipush 256, 3) := by decide +kernel
theorem dX12_init_329 : decode cX12_init 329 = .ok (.newarray .int, 2) := by decide +kernel
theorem dX12_init_331 : decode cX12_init 331 = .ok (.putfield 123, 3) := by decide +kernel
theorem dX12_init_334 : decode cX12_init 334 = .ok (.aload_n 0, 1) := by decide +kernel
theorem dX12_init_335 : decode cX12_init 335 = .ok (.sipush 256, 3) := by decide +kernel
theorem dX12_init_338 : decode cX12_init 338 = .ok (.newarray .long, 2) := by decide +kernel
theorem dX12_init_340 : decode cX12_init 340 = .ok (.putfield 126, 3) := by decide +kernel
theorem dX12_init_343 : decode cX12_init 343 = .ok (.aload_n 0, 1) := by decide +kernel
theorem dX12_init_344 : decode cX12_init 344 = .ok (.sipush 256, 3) := by decide +kernel
theorem dX12_init_347 : decode cX12_init 347 = .ok (.newarray .long, 2) := by decide +kernel
theorem dX12_init_349 : decode cX12_init 349 = .ok (.putfield 129, 3) := by decide +kernel
theorem dX12_init_352 : decode cX12_init 352 = .ok (.aload_n 0, 1) := by decide +kernel
theorem dX12_init_353 : decode cX12_init 353 = .ok (.sipush 256, 3) := by decide +kernel
theorem dX12_init_356 : decode cX12_init 356 = .ok (.newarray .long, 2) := by decide +kernel
theorem dX12_init_358 : decode cX12_init 358 = .ok (.putfield 132, 3) := by decide +kernel
theorem dX12_init_361 : decode cX12_init 361 = .ok (.aload_n 0, 1) := by decide +kernel
theorem dX12_init_362 : decode cX12_init 362 = .ok (.sipush 256, 3) := by decide +kernel
theorem dX12_init_365 : decode cX12_init 365 = .ok (.newarray .long, 2) := by decide +kernel
theorem dX12_init_367 : decode cX12_init 367 = .ok (.putfield 135, 3) := by decide +kernel
theorem dX12_init_370 : decode cX12_init 370 = .ok (.aload_n 0, 1) := by decide +kernel
theorem dX12_init_371 : decode cX12_init 371 = .ok (.sipush 256, 3) := by decide +kernel
theorem dX12_init_374 : decode cX12_init 374 = .ok (.newarray .long, 2) := by decide +kernel
theorem dX12_init_376 : decode cX12_init 376 = .ok (.putfield 138, 3) := by decide +kernel
theorem dX12_init_379 : decode cX12_init 379 = .ok (.aload_n 0, 1) := by decide +kernel
theorem dX12_init_380 : decode cX12_init 380 = .ok (.sipush 256, 3) := by decide +kernel
theorem dX12_init_383 : decode cX12_init 383 = .ok (.newarray .int, 2) := by decide +kernel
theorem dX12_init_385 : decode cX12_init 385 = .ok (.putfield 141, 3) := by decide +kernel
theorem dX12_init_388 : decode cX12_init 388 = .ok (.aload_n 0, 1) := by decide +kernel
theorem dX12_init_389 : decode cX12_init 389 = .ok (.sipush 256, 3) := by decide +kernel
theorem dX12_init_392 : decode cX12_init 392 = .ok (.newarray .int, 2) := by decide +kernel
theorem dX12_init_394 : decode cX12_init 394 = .ok (.putfield 144, 3) := by decide +kernel
theorem dX12_init_397 : decode cX12_init 397 = .ok (.aload_n 0, 1) := by decide +kernel
theorem dX12_init_398 : decode cX12_init 398 = .ok (.bipush 9, 2) := by decide +kernel
theorem dX12_init_400 : decode cX12_init 400 = .ok (.newarray .int, 2) := by decide +kernel
theorem dX12_init_402 : decode cX12_init 402 = .ok (.putfield 147, 3) := by decide +kernel
theorem dX12_init_405 : decode cX12_init 405 = .ok (.aload_n 0, 1) := by decide +kernel
theorem dX12_init_406 : decode cX12_init 406 = .ok (.bipush 9, 2) := by decide +kernel
theorem dX12_init_408 : decode cX12_init 408 = .ok (.newarray .int, 2) := by decide +kernel
theorem dX12_init_410 : decode cX12_init 410 = .ok (.putfield 150, 3) := by decide +kernel
theorem dX12_init_413 : decode cX12_init 413 = .ok (.aload_n 0, 1) := by decide +kernel
theorem dX12_init_414 : decode cX12_init 414 = .ok (.bipush 9, 2) := by decide +kernel
theorem dX12_init_416 : decode cX12_init 416 = .ok (.newarray .int, 2) := by decide +kernel
theorem dX12_init_418 : decode cX12_init 418 = .ok (.putfield 153, 3) := by decide +kernel
theorem dX12_init_421 : decode cX12_init 421 = .ok (.aload_n 0, 1) := by decide +kernel
theorem dX12_init_422 : decode cX12_init 422 = .ok (.bipush 16, 2) := by decide +kernel
theorem dX12_init_424 : decode cX12_init 424 = .ok (.newarray .int, 2) := by decide +kernel
theorem dX12_init_426 : decode cX12_init 426 = .ok (.putfield 156, 3) := by decide +kernel
theorem dX12_init_429 : decode cX12_init 429 = .ok (.aload_n 0, 1) := by decide +kernel
theorem dX12_init_430 : decode cX12_init 430 = .ok (.bipush 62, 2) := by decide +kernel
theorem dX12_init_432 : decode cX12_init 432 = .ok (.newarray .long, 2) := by decide +kernel
theorem dX12_init_434 : decode cX12_init 434 = .ok (.putfield 159, 3) := by decide +kernel
theorem dX12_init_437 : decode cX12_init 437 = .ok (.aload_n 0, 1) := by decide +kernel
theorem dX12_init_438 : decode cX12_init 438 = .ok (.sipush 400, 3) := by decide +kernel
theorem dX12_init_441 : decode cX12_init 441 = .ok (.newarray .boolean, 2) := by decide +kernel
theorem dX12_init_443 : decode cX12_init 443 = .ok (.putfield 162, 3) := by decide +kernel
theorem dX12_init_446 : decode cX12_init 446 = .ok (.aload_n 0, 1) := by decide +kernel
theorem dX12_init_447 : decode cX12_init 447 = .ok (.sipush 15600, 3) := by decide +kernel
theorem dX12_init_450 : decode cX12_init 450 = .ok (.newarray .int, 2) := by decide +kernel
theorem dX12_init_452 : decode cX12_init 452 = .ok (.putfield 166, 3) := by decide +kernel
theorem dX12_init_455 : decode cX12_init 455 = .ok (.aload_n 0, 1) := by decide +kernel
theorem dX12_init_456 : decode cX12_init 456 = .ok (.bipush 6, 2) := by decide +kernel
theorem dX12_init_458 : decode cX12_init 458 = .ok (.newarray .int, 2) := by decide +kernel
theorem dX12_init_460 : decode cX12_init 460 = .ok (.putfield 169, 3) := by decide +kernel
theorem dX12_init_463 : decode cX12_init 463 = .ok (.aload_n 0, 1) := by decide +kernel
theorem dX12_init_464 : decode cX12_init 464 = .ok (.iconst 4, 1) := by decide +kernel
theorem dX12_init_465 : decode cX12_init 465 = .ok (.newarray .boolean, 2) := by decide +kernel
theorem dX12_init_467 : decode cX12_init 467 = .ok (.putfield 172, 3) := by decide +kernel
theorem dX12_init_470 : decode cX12_init 470 = .ok (.iconst 0, 1) := by decide +kernel
theorem dX12_init_471 : decode cX12_init 471 = .ok (.istore_n 1, 1) := by decide +kernel
theorem dX12_init_472 : decode cX12_init 472 = .ok (.iload_n 1, 1) := by decide +kernel
theorem dX12_init_473 : decode cX12_init 473 = .ok (.bipush 16, 2) := by decide +kernel
theorem dX12_init_475 : decode cX12_init 475 = .ok (.if_icmp .ge 16, 3) := by decide +kernel
theorem dX12_init_478 : decode cX12_init 478 = .ok (.aload_n 0, 1) := by decide +kernel
theorem dX12_init_479 : decode cX12_init 479 = .ok (.getfield 13, 3) := by decide +kernel
theorem dX12_init_482 : decode cX12_init 482 = .ok (.iload_n 1, 1) := by decide +kernel
theorem dX12_init_483 : decode cX12_init 483 = .ok (.iconst (-1), 1) := by decide +kernel
theorem dX12_init_484 : decode cX12_init 484 = .ok (.iastore, 1) := by decide +kernel
theorem dX12_init_485 : decode cX12_init 485 = .ok (.iinc 1 1, 3) := by decide +kernel
theorem dX12_init_488 : decode cX12_init 488 = .ok (.goto (-16), 3) := by decide +kernel
theorem dX12_init_491 : decode cX12_init 491 = .ok (.return_, 1) := by decide +kernel
set_option maxRecDepth 100000 in
set_option maxHeartbeats 4000000 in
theorem l_X12_init {h : ai_H} : ∀ (j i : Nat), i + j = 16 → ai_R MX12_init 472 [.ref h.1, .int (nI i)] [] (ap h (m0 h.1 i)) none (ap h (m0 h.1 16)) := by
  intro j
  induction j with
  | zero =>
    intro i hi
    have e : i = 16 := by omega
    subst e
    refine rs_iload_n (pc := 472) dX12_init_472 rfl ?_
    refine rs_bipush (v := 16) (pc := 473) dX12_init_473 rfl ?_
    refine rs_icmp_ge (tgt := 491) (pc := 475) dX12_init_475 rfl (fun c_33 => ?_) (fun c_33 => absurd c_33 (by decide))
    exact wk_vret (pc := 491) dX12_init_491 rfl rfl rfl
  | succ j ih =>
    intro i hi
    refine rs_iload_n (pc := 472) dX12_init_472 rfl ?_
    refine rs_bipush (v := 16) (pc := 473) dX12_init_473 rfl ?_
    refine rs_icmp_ge (tgt := 491) (pc := 475) dX12_init_475 rfl (fun c_33 => absurd (lp_exit (sz := 16) rfl (by decide) (by omega) c_33) (by omega)) (fun c_33 => ?_)
    have g0 : (m0 h.1 i)[2]? = some (.inl (0, 16, .inl (own0 i))) := rfl
    refine rs_aload_n (pc := 478) dX12_init_478 rfl ?_
    refine rs_getf (pc := 479) dX12_init_479 fX12_13 (ap_lt (i := 0) rfl) (ap_get (i := 0) rfl) rfl ?_
    refine rs_iload_n (pc := 482) dX12_init_482 rfl ?_
    refine rs_iconst (v := -1) (pc := 483) dX12_init_483 rfl ?_
    refine rs_iast (pc := 484) dX12_init_484 (ap_lt g0) (ap_get g0) (vp_in_nI (n := i) (N := 16) (by omega) (by decide)) ?_
    rw [ap_set g0 (by simp [csl]), nI_clamp (show i < 2 ^ 31 by omega), own0_1]
    refine wk_iinc1 (v := nI (i + 1)) (pc := 485) dX12_init_485 (by decide) rfl (nI_1 i) ?_
    refine rs_goto (tgt := 472) (pc := 488) dX12_init_488 rfl ?_
    exact ih (i + 1) (by omega)
theorem cw_fI {M : ai_M} {pc idx k m N : Nat} {ls st : List Value} {h h' : ai_H} {r : Option Value} {n : Int32} {fs : List Value} {L : List va_E} (d1 : decode M.2.1 pc = .ok (.newarray .int, 2)) (d2 : decode M.2.1 (pc + 2) = .ok (.putfield idx, 3)) (F : ai_FF M.1.cls idx 12 k) (hin : M.1.name = "<init>") (hfit : ∀ x, ai_fit (ai_ty 12 k) (.ref x) = true) (hl : fs.length = 73) (hk : k < 73) (hm : L.length + 1 = m) (hn : ¬ n < 0) (hN : n.toNatClampNeg = N) (hb : N * 4 ≤ 536870912) (kk : (fs.set k (.ref (h.1 + m))).length = 73 → (L ++ [(.inl (0, N, .inl (fun _ => 0)) : va_E)]).length + 1 = m + 1 → ai_R M (pc + 2 + 3) ls st (ap h (.inr (12, fs.set k (.ref (h.1 + m))) :: (L ++ [.inl (0, N, .inl (fun _ => 0))]))) r h') : ai_R M pc ls (.int n :: .ref h.1 :: st) (ap h (.inr (12, fs) :: L)) r h' := by
  refine cw_newI (m := m) d1 hn hN hb (by rw [List.length_cons]; exact hm) ?_
  refine cw_putF (i := 0) d2 F hin rfl (hfit _) (by rw [hl]; exact hk) ?_
  exact kk (by rw [List.length_set]; exact hl) (by rw [List.length_append]; show L.length + 1 + 1 = _; omega)
theorem cw_fJ {M : ai_M} {pc idx k m N : Nat} {ls st : List Value} {h h' : ai_H} {r : Option Value} {n : Int32} {fs : List Value} {L : List va_E} (d1 : decode M.2.1 pc = .ok (.newarray .long, 2)) (d2 : decode M.2.1 (pc + 2) = .ok (.putfield idx, 3)) (F : ai_FF M.1.cls idx 12 k) (hin : M.1.name = "<init>") (hfit : ∀ x, ai_fit (ai_ty 12 k) (.ref x) = true) (hl : fs.length = 73) (hk : k < 73) (hm : L.length + 1 = m) (hn : ¬ n < 0) (hN : n.toNatClampNeg = N) (hb : N * 8 ≤ 536870912) (kk : (fs.set k (.ref (h.1 + m))).length = 73 → (L ++ [(.inl (1, N, .inr (.inl (fun _ => 0))) : va_E)]).length + 1 = m + 1 → ai_R M (pc + 2 + 3) ls st (ap h (.inr (12, fs.set k (.ref (h.1 + m))) :: (L ++ [.inl (1, N, .inr (.inl (fun _ => 0)))]))) r h') : ai_R M pc ls (.int n :: .ref h.1 :: st) (ap h (.inr (12, fs) :: L)) r h' := by
  refine cw_newJ (m := m) d1 hn hN hb (by rw [List.length_cons]; exact hm) ?_
  refine cw_putF (i := 0) d2 F hin rfl (hfit _) (by rw [hl]; exact hk) ?_
  exact kk (by rw [List.length_set]; exact hl) (by rw [List.length_append]; show L.length + 1 + 1 = _; omega)
theorem cw_fZ {M : ai_M} {pc idx k m N : Nat} {ls st : List Value} {h h' : ai_H} {r : Option Value} {n : Int32} {fs : List Value} {L : List va_E} (d1 : decode M.2.1 pc = .ok (.newarray .boolean, 2)) (d2 : decode M.2.1 (pc + 2) = .ok (.putfield idx, 3)) (F : ai_FF M.1.cls idx 12 k) (hin : M.1.name = "<init>") (hfit : ∀ x, ai_fit (ai_ty 12 k) (.ref x) = true) (hl : fs.length = 73) (hk : k < 73) (hm : L.length + 1 = m) (hn : ¬ n < 0) (hN : n.toNatClampNeg = N) (hb : N * componentBytes .boolean ≤ 536870912) (kk : (fs.set k (.ref (h.1 + m))).length = 73 → (L ++ [(.inl (2, N, .inl (fun _ => 0)) : va_E)]).length + 1 = m + 1 → ai_R M (pc + 2 + 3) ls st (ap h (.inr (12, fs.set k (.ref (h.1 + m))) :: (L ++ [.inl (2, N, .inl (fun _ => 0))]))) r h') : ai_R M pc ls (.int n :: .ref h.1 :: st) (ap h (.inr (12, fs) :: L)) r h' := by
  refine cw_newZ (m := m) d1 hn hN hb (by rw [List.length_cons]; exact hm) ?_
  refine cw_putF (i := 0) d2 F hin rfl (hfit _) (by rw [hl]; exact hk) ?_
  exact kk (by rw [List.length_set]; exact hl) (by rw [List.length_append]; show L.length + 1 + 1 = _; omega)
theorem cw_fB {M : ai_M} {pc idx k m N : Nat} {ls st : List Value} {h h' : ai_H} {r : Option Value} {n : Int32} {fs : List Value} {L : List va_E} (d1 : decode M.2.1 pc = .ok (.newarray .byte, 2)) (d2 : decode M.2.1 (pc + 2) = .ok (.putfield idx, 3)) (F : ai_FF M.1.cls idx 12 k) (hin : M.1.name = "<init>") (hfit : ∀ x, ai_fit (ai_ty 12 k) (.ref x) = true) (hl : fs.length = 73) (hk : k < 73) (hm : L.length + 1 = m) (hn : ¬ n < 0) (hN : n.toNatClampNeg = N) (hb : N * componentBytes .byte ≤ 536870912) (kk : (fs.set k (.ref (h.1 + m))).length = 73 → (L ++ [(.inl (3, N, .inl (fun _ => 0)) : va_E)]).length + 1 = m + 1 → ai_R M (pc + 2 + 3) ls st (ap h (.inr (12, fs.set k (.ref (h.1 + m))) :: (L ++ [.inl (3, N, .inl (fun _ => 0))]))) r h') : ai_R M pc ls (.int n :: .ref h.1 :: st) (ap h (.inr (12, fs) :: L)) r h' := by
  refine cw_newB (m := m) d1 hn hN hb (by rw [List.length_cons]; exact hm) ?_
  refine cw_putF (i := 0) d2 F hin rfl (hfit _) (by rw [hl]; exact hk) ?_
  exact kk (by rw [List.length_set]; exact hl) (by rw [List.length_append]; show L.length + 1 + 1 = _; omega)
set_option maxRecDepth 100000 in
set_option maxHeartbeats 4000000 in
theorem k_X12_0 {h h' : ai_H} {r : Option Value} {fs : List Value} {L : List va_E} (hl : fs.length = 73) (hm : L.length + 1 = 1) (kk : ∀ (fs' : List Value) (L' : List va_E), fs' = (((((((((fs.set 6 (.ref (h.1 + 1))).set 7 (.ref (h.1 + 2))).set 8 (.ref (h.1 + 3))).set 9 (.ref (h.1 + 4))).set 10 (.ref (h.1 + 5))).set 11 (.ref (h.1 + 6))).set 12 (.ref (h.1 + 7))).set 13 (.ref (h.1 + 8))).set 14 (.ref (h.1 + 9))) → L' = (((((((((L ++ [.inl (0, 16, .inl (fun _ => 0))]) ++ [.inl (0, 16, .inl (fun _ => 0))]) ++ [.inl (0, 24, .inl (fun _ => 0))]) ++ [.inl (0, 24, .inl (fun _ => 0))]) ++ [.inl (0, 24, .inl (fun _ => 0))]) ++ [.inl (0, 80, .inl (fun _ => 0))]) ++ [.inl (0, 80, .inl (fun _ => 0))]) ++ [.inl (0, 400, .inl (fun _ => 0))]) ++ [.inl (0, 400, .inl (fun _ => 0))]) → fs'.length = 73 → L'.length + 1 = 10 → ai_R MX12_init 78 [.ref h.1, .float 0] [] (ap h (.inr (12, fs') :: L')) r h') : ai_R MX12_init 4 [.ref h.1, .float 0] [] (ap h (.inr (12, fs) :: L)) r h' := by
  refine rs_aload_n (pc := 4) dX12_init_4 rfl ?_
  refine rs_bipush (v := 16) (pc := 5) dX12_init_5 rfl ?_
  refine cw_fI (N := 16) (m := 1) (k := 6) (pc := 7) dX12_init_7 dX12_init_9 ffX12_9 rfl (fun _ => rfl) hl (by decide) hm (by decide) (by decide) (by decide) (fun hl hm => ?_)
  refine rs_aload_n (pc := 12) dX12_init_12 rfl ?_
  refine rs_bipush (v := 16) (pc := 13) dX12_init_13 rfl ?_
  refine cw_fI (N := 16) (m := 2) (k := 7) (pc := 15) dX12_init_15 dX12_init_17 ffX12_13 rfl (fun _ => rfl) hl (by decide) hm (by decide) (by decide) (by decide) (fun hl hm => ?_)
  refine rs_aload_n (pc := 20) dX12_init_20 rfl ?_
  refine rs_bipush (v := 24) (pc := 21) dX12_init_21 rfl ?_
  refine cw_fI (N := 24) (m := 3) (k := 8) (pc := 23) dX12_init_23 dX12_init_25 ffX12_16 rfl (fun _ => rfl) hl (by decide) hm (by decide) (by decide) (by decide) (fun hl hm => ?_)
  refine rs_aload_n (pc := 28) dX12_init_28 rfl ?_
  refine rs_bipush (v := 24) (pc := 29) dX12_init_29 rfl ?_
  refine cw_fI (N := 24) (m := 4) (k := 9) (pc := 31) dX12_init_31 dX12_init_33 ffX12_19 rfl (fun _ => rfl) hl (by decide) hm (by decide) (by decide) (by decide) (fun hl hm => ?_)
  refine rs_aload_n (pc := 36) dX12_init_36 rfl ?_
  refine rs_bipush (v := 24) (pc := 37) dX12_init_37 rfl ?_
  refine cw_fI (N := 24) (m := 5) (k := 10) (pc := 39) dX12_init_39 dX12_init_41 ffX12_22 rfl (fun _ => rfl) hl (by decide) hm (by decide) (by decide) (by decide) (fun hl hm => ?_)
  refine rs_aload_n (pc := 44) dX12_init_44 rfl ?_
  refine rs_bipush (v := 80) (pc := 45) dX12_init_45 rfl ?_
  refine cw_fI (N := 80) (m := 6) (k := 11) (pc := 47) dX12_init_47 dX12_init_49 ffX12_25 rfl (fun _ => rfl) hl (by decide) hm (by decide) (by decide) (by decide) (fun hl hm => ?_)
  refine rs_aload_n (pc := 52) dX12_init_52 rfl ?_
  refine rs_bipush (v := 80) (pc := 53) dX12_init_53 rfl ?_
  refine cw_fI (N := 80) (m := 7) (k := 12) (pc := 55) dX12_init_55 dX12_init_57 ffX12_28 rfl (fun _ => rfl) hl (by decide) hm (by decide) (by decide) (by decide) (fun hl hm => ?_)
  refine rs_aload_n (pc := 60) dX12_init_60 rfl ?_
  refine rs_sipush (v := 400) (pc := 61) dX12_init_61 rfl ?_
  refine cw_fI (N := 400) (m := 8) (k := 13) (pc := 64) dX12_init_64 dX12_init_66 ffX12_31 rfl (fun _ => rfl) hl (by decide) hm (by decide) (by decide) (by decide) (fun hl hm => ?_)
  refine rs_aload_n (pc := 69) dX12_init_69 rfl ?_
  refine rs_sipush (v := 400) (pc := 70) dX12_init_70 rfl ?_
  refine cw_fI (N := 400) (m := 9) (k := 14) (pc := 73) dX12_init_73 dX12_init_75 ffX12_34 rfl (fun _ => rfl) hl (by decide) hm (by decide) (by decide) (by decide) (fun hl hm => ?_)
  exact kk _ _ rfl rfl hl hm
set_option maxRecDepth 100000 in
set_option maxHeartbeats 4000000 in
theorem k_X12_1 {h h' : ai_H} {r : Option Value} {fs : List Value} {L : List va_E} (hl : fs.length = 73) (hm : L.length + 1 = 10) (kk : ∀ (fs' : List Value) (L' : List va_E), fs' = (((((((((fs.set 15 (.ref (h.1 + 10))).set 16 (.ref (h.1 + 11))).set 17 (.ref (h.1 + 12))).set 18 (.ref (h.1 + 13))).set 19 (.ref (h.1 + 14))).set 20 (.ref (h.1 + 15))).set 21 (.ref (h.1 + 16))).set 30 (.ref (h.1 + 17))).set 31 (.ref (h.1 + 18))) → L' = (((((((((L ++ [.inl (0, 400, .inl (fun _ => 0))]) ++ [.inl (0, 400, .inl (fun _ => 0))]) ++ [.inl (0, 400, .inl (fun _ => 0))]) ++ [.inl (0, 400, .inl (fun _ => 0))]) ++ [.inl (0, 400, .inl (fun _ => 0))]) ++ [.inl (0, 400, .inl (fun _ => 0))]) ++ [.inl (0, 400, .inl (fun _ => 0))]) ++ [.inl (3, 400, .inl (fun _ => 0))]) ++ [.inl (0, 3000, .inl (fun _ => 0))]) → fs'.length = 73 → L'.length + 1 = 19 → ai_R MX12_init 159 [.ref h.1, .float 0] [] (ap h (.inr (12, fs') :: L')) r h') : ai_R MX12_init 78 [.ref h.1, .float 0] [] (ap h (.inr (12, fs) :: L)) r h' := by
  refine rs_aload_n (pc := 78) dX12_init_78 rfl ?_
  refine rs_sipush (v := 400) (pc := 79) dX12_init_79 rfl ?_
  refine cw_fI (N := 400) (m := 10) (k := 15) (pc := 82) dX12_init_82 dX12_init_84 ffX12_37 rfl (fun _ => rfl) hl (by decide) hm (by decide) (by decide) (by decide) (fun hl hm => ?_)
  refine rs_aload_n (pc := 87) dX12_init_87 rfl ?_
  refine rs_sipush (v := 400) (pc := 88) dX12_init_88 rfl ?_
  refine cw_fI (N := 400) (m := 11) (k := 16) (pc := 91) dX12_init_91 dX12_init_93 ffX12_40 rfl (fun _ => rfl) hl (by decide) hm (by decide) (by decide) (by decide) (fun hl hm => ?_)
  refine rs_aload_n (pc := 96) dX12_init_96 rfl ?_
  refine rs_sipush (v := 400) (pc := 97) dX12_init_97 rfl ?_
  refine cw_fI (N := 400) (m := 12) (k := 17) (pc := 100) dX12_init_100 dX12_init_102 ffX12_43 rfl (fun _ => rfl) hl (by decide) hm (by decide) (by decide) (by decide) (fun hl hm => ?_)
  refine rs_aload_n (pc := 105) dX12_init_105 rfl ?_
  refine rs_sipush (v := 400) (pc := 106) dX12_init_106 rfl ?_
  refine cw_fI (N := 400) (m := 13) (k := 18) (pc := 109) dX12_init_109 dX12_init_111 ffX12_46 rfl (fun _ => rfl) hl (by decide) hm (by decide) (by decide) (by decide) (fun hl hm => ?_)
  refine rs_aload_n (pc := 114) dX12_init_114 rfl ?_
  refine rs_sipush (v := 400) (pc := 115) dX12_init_115 rfl ?_
  refine cw_fI (N := 400) (m := 14) (k := 19) (pc := 118) dX12_init_118 dX12_init_120 ffX12_49 rfl (fun _ => rfl) hl (by decide) hm (by decide) (by decide) (by decide) (fun hl hm => ?_)
  refine rs_aload_n (pc := 123) dX12_init_123 rfl ?_
  refine rs_sipush (v := 400) (pc := 124) dX12_init_124 rfl ?_
  refine cw_fI (N := 400) (m := 15) (k := 20) (pc := 127) dX12_init_127 dX12_init_129 ffX12_52 rfl (fun _ => rfl) hl (by decide) hm (by decide) (by decide) (by decide) (fun hl hm => ?_)
  refine rs_aload_n (pc := 132) dX12_init_132 rfl ?_
  refine rs_sipush (v := 400) (pc := 133) dX12_init_133 rfl ?_
  refine cw_fI (N := 400) (m := 16) (k := 21) (pc := 136) dX12_init_136 dX12_init_138 ffX12_55 rfl (fun _ => rfl) hl (by decide) hm (by decide) (by decide) (by decide) (fun hl hm => ?_)
  refine rs_aload_n (pc := 141) dX12_init_141 rfl ?_
  refine rs_sipush (v := 400) (pc := 142) dX12_init_142 rfl ?_
  refine cw_fB (N := 400) (m := 17) (k := 30) (pc := 145) dX12_init_145 dX12_init_147 ffX12_58 rfl (fun _ => rfl) hl (by decide) hm (by decide) (by decide) (by decide) (fun hl hm => ?_)
  refine rs_aload_n (pc := 150) dX12_init_150 rfl ?_
  refine rs_sipush (v := 3000) (pc := 151) dX12_init_151 rfl ?_
  refine cw_fI (N := 3000) (m := 18) (k := 31) (pc := 154) dX12_init_154 dX12_init_156 ffX12_62 rfl (fun _ => rfl) hl (by decide) hm (by decide) (by decide) (by decide) (fun hl hm => ?_)
  exact kk _ _ rfl rfl hl hm
set_option maxRecDepth 100000 in
set_option maxHeartbeats 4000000 in
theorem k_X12_2 {h h' : ai_H} {r : Option Value} {fs : List Value} {L : List va_E} (hl : fs.length = 73) (hm : L.length + 1 = 19) (kk : ∀ (fs' : List Value) (L' : List va_E), fs' = (((((((((fs.set 32 (.ref (h.1 + 19))).set 33 (.ref (h.1 + 20))).set 34 (.ref (h.1 + 21))).set 35 (.ref (h.1 + 22))).set 36 (.ref (h.1 + 23))).set 37 (.ref (h.1 + 24))).set 38 (.ref (h.1 + 25))).set 39 (.ref (h.1 + 26))).set 41 (.ref (h.1 + 27))) → L' = (((((((((L ++ [.inl (0, 3000, .inl (fun _ => 0))]) ++ [.inl (0, 10, .inl (fun _ => 0))]) ++ [.inl (0, 120, .inl (fun _ => 0))]) ++ [.inl (0, 120, .inl (fun _ => 0))]) ++ [.inl (0, 120, .inl (fun _ => 0))]) ++ [.inl (0, 402, .inl (fun _ => 0))]) ++ [.inl (1, 10, .inr (.inl (fun _ => 0)))]) ++ [.inl (1, 300, .inr (.inl (fun _ => 0)))]) ++ [.inl (0, 400, .inl (fun _ => 0))]) → fs'.length = 73 → L'.length + 1 = 28 → ai_R MX12_init 235 [.ref h.1, .float 0] [] (ap h (.inr (12, fs') :: L')) r h') : ai_R MX12_init 159 [.ref h.1, .float 0] [] (ap h (.inr (12, fs) :: L)) r h' := by
  refine rs_aload_n (pc := 159) dX12_init_159 rfl ?_
  refine rs_sipush (v := 3000) (pc := 160) dX12_init_160 rfl ?_
  refine cw_fI (N := 3000) (m := 19) (k := 32) (pc := 163) dX12_init_163 dX12_init_165 ffX12_65 rfl (fun _ => rfl) hl (by decide) hm (by decide) (by decide) (by decide) (fun hl hm => ?_)
  refine rs_aload_n (pc := 168) dX12_init_168 rfl ?_
  refine rs_bipush (v := 10) (pc := 169) dX12_init_169 rfl ?_
  refine cw_fI (N := 10) (m := 20) (k := 33) (pc := 171) dX12_init_171 dX12_init_173 ffX12_68 rfl (fun _ => rfl) hl (by decide) hm (by decide) (by decide) (by decide) (fun hl hm => ?_)
  refine rs_aload_n (pc := 176) dX12_init_176 rfl ?_
  refine rs_bipush (v := 120) (pc := 177) dX12_init_177 rfl ?_
  refine cw_fI (N := 120) (m := 21) (k := 34) (pc := 179) dX12_init_179 dX12_init_181 ffX12_71 rfl (fun _ => rfl) hl (by decide) hm (by decide) (by decide) (by decide) (fun hl hm => ?_)
  refine rs_aload_n (pc := 184) dX12_init_184 rfl ?_
  refine rs_bipush (v := 120) (pc := 185) dX12_init_185 rfl ?_
  refine cw_fI (N := 120) (m := 22) (k := 35) (pc := 187) dX12_init_187 dX12_init_189 ffX12_74 rfl (fun _ => rfl) hl (by decide) hm (by decide) (by decide) (by decide) (fun hl hm => ?_)
  refine rs_aload_n (pc := 192) dX12_init_192 rfl ?_
  refine rs_bipush (v := 120) (pc := 193) dX12_init_193 rfl ?_
  refine cw_fI (N := 120) (m := 23) (k := 36) (pc := 195) dX12_init_195 dX12_init_197 ffX12_77 rfl (fun _ => rfl) hl (by decide) hm (by decide) (by decide) (by decide) (fun hl hm => ?_)
  refine rs_aload_n (pc := 200) dX12_init_200 rfl ?_
  refine rs_sipush (v := 402) (pc := 201) dX12_init_201 rfl ?_
  refine cw_fI (N := 402) (m := 24) (k := 37) (pc := 204) dX12_init_204 dX12_init_206 ffX12_80 rfl (fun _ => rfl) hl (by decide) hm (by decide) (by decide) (by decide) (fun hl hm => ?_)
  refine rs_aload_n (pc := 209) dX12_init_209 rfl ?_
  refine rs_bipush (v := 10) (pc := 210) dX12_init_210 rfl ?_
  refine cw_fJ (N := 10) (m := 25) (k := 38) (pc := 212) dX12_init_212 dX12_init_214 ffX12_83 rfl (fun _ => rfl) hl (by decide) hm (by decide) (by decide) (by decide) (fun hl hm => ?_)
  refine rs_aload_n (pc := 217) dX12_init_217 rfl ?_
  refine rs_sipush (v := 300) (pc := 218) dX12_init_218 rfl ?_
  refine cw_fJ (N := 300) (m := 26) (k := 39) (pc := 221) dX12_init_221 dX12_init_223 ffX12_87 rfl (fun _ => rfl) hl (by decide) hm (by decide) (by decide) (by decide) (fun hl hm => ?_)
  refine rs_aload_n (pc := 226) dX12_init_226 rfl ?_
  refine rs_sipush (v := 400) (pc := 227) dX12_init_227 rfl ?_
  refine cw_fI (N := 400) (m := 27) (k := 41) (pc := 230) dX12_init_230 dX12_init_232 ffX12_90 rfl (fun _ => rfl) hl (by decide) hm (by decide) (by decide) (by decide) (fun hl hm => ?_)
  exact kk _ _ rfl rfl hl hm
set_option maxRecDepth 100000 in
set_option maxHeartbeats 4000000 in
theorem k_X12_3 {h h' : ai_H} {r : Option Value} {fs : List Value} {L : List va_E} (hl : fs.length = 73) (hm : L.length + 1 = 28) (kk : ∀ (fs' : List Value) (L' : List va_E), fs' = (((((((((fs.set 42 (.ref (h.1 + 28))).set 43 (.ref (h.1 + 29))).set 44 (.ref (h.1 + 30))).set 45 (.ref (h.1 + 31))).set 46 (.ref (h.1 + 32))).set 47 (.ref (h.1 + 33))).set 48 (.ref (h.1 + 34))).set 49 (.ref (h.1 + 35))).set 50 (.ref (h.1 + 36))) → L' = (((((((((L ++ [.inl (0, 400, .inl (fun _ => 0))]) ++ [.inl (0, 400, .inl (fun _ => 0))]) ++ [.inl (0, 400, .inl (fun _ => 0))]) ++ [.inl (0, 400, .inl (fun _ => 0))]) ++ [.inl (0, 400, .inl (fun _ => 0))]) ++ [.inl (0, 400, .inl (fun _ => 0))]) ++ [.inl (1, 400, .inr (.inl (fun _ => 0)))]) ++ [.inl (1, 400, .inr (.inl (fun _ => 0)))]) ++ [.inl (0, 256, .inl (fun _ => 0))]) → fs'.length = 73 → L'.length + 1 = 37 → ai_R MX12_init 316 [.ref h.1, .float 0] [] (ap h (.inr (12, fs') :: L')) r h') : ai_R MX12_init 235 [.ref h.1, .float 0] [] (ap h (.inr (12, fs) :: L)) r h' := by
  refine rs_aload_n (pc := 235) dX12_init_235 rfl ?_
  refine rs_sipush (v := 400) (pc := 236) dX12_init_236 rfl ?_
  refine cw_fI (N := 400) (m := 28) (k := 42) (pc := 239) dX12_init_239 dX12_init_241 ffX12_93 rfl (fun _ => rfl) hl (by decide) hm (by decide) (by decide) (by decide) (fun hl hm => ?_)
  refine rs_aload_n (pc := 244) dX12_init_244 rfl ?_
  refine rs_sipush (v := 400) (pc := 245) dX12_init_245 rfl ?_
  refine cw_fI (N := 400) (m := 29) (k := 43) (pc := 248) dX12_init_248 dX12_init_250 ffX12_96 rfl (fun _ => rfl) hl (by decide) hm (by decide) (by decide) (by decide) (fun hl hm => ?_)
  refine rs_aload_n (pc := 253) dX12_init_253 rfl ?_
  refine rs_sipush (v := 400) (pc := 254) dX12_init_254 rfl ?_
  refine cw_fI (N := 400) (m := 30) (k := 44) (pc := 257) dX12_init_257 dX12_init_259 ffX12_99 rfl (fun _ => rfl) hl (by decide) hm (by decide) (by decide) (by decide) (fun hl hm => ?_)
  refine rs_aload_n (pc := 262) dX12_init_262 rfl ?_
  refine rs_sipush (v := 400) (pc := 263) dX12_init_263 rfl ?_
  refine cw_fI (N := 400) (m := 31) (k := 45) (pc := 266) dX12_init_266 dX12_init_268 ffX12_102 rfl (fun _ => rfl) hl (by decide) hm (by decide) (by decide) (by decide) (fun hl hm => ?_)
  refine rs_aload_n (pc := 271) dX12_init_271 rfl ?_
  refine rs_sipush (v := 400) (pc := 272) dX12_init_272 rfl ?_
  refine cw_fI (N := 400) (m := 32) (k := 46) (pc := 275) dX12_init_275 dX12_init_277 ffX12_105 rfl (fun _ => rfl) hl (by decide) hm (by decide) (by decide) (by decide) (fun hl hm => ?_)
  refine rs_aload_n (pc := 280) dX12_init_280 rfl ?_
  refine rs_sipush (v := 400) (pc := 281) dX12_init_281 rfl ?_
  refine cw_fI (N := 400) (m := 33) (k := 47) (pc := 284) dX12_init_284 dX12_init_286 ffX12_108 rfl (fun _ => rfl) hl (by decide) hm (by decide) (by decide) (by decide) (fun hl hm => ?_)
  refine rs_aload_n (pc := 289) dX12_init_289 rfl ?_
  refine rs_sipush (v := 400) (pc := 290) dX12_init_290 rfl ?_
  refine cw_fJ (N := 400) (m := 34) (k := 48) (pc := 293) dX12_init_293 dX12_init_295 ffX12_111 rfl (fun _ => rfl) hl (by decide) hm (by decide) (by decide) (by decide) (fun hl hm => ?_)
  refine rs_aload_n (pc := 298) dX12_init_298 rfl ?_
  refine rs_sipush (v := 400) (pc := 299) dX12_init_299 rfl ?_
  refine cw_fJ (N := 400) (m := 35) (k := 49) (pc := 302) dX12_init_302 dX12_init_304 ffX12_114 rfl (fun _ => rfl) hl (by decide) hm (by decide) (by decide) (by decide) (fun hl hm => ?_)
  refine rs_aload_n (pc := 307) dX12_init_307 rfl ?_
  refine rs_sipush (v := 256) (pc := 308) dX12_init_308 rfl ?_
  refine cw_fI (N := 256) (m := 36) (k := 50) (pc := 311) dX12_init_311 dX12_init_313 ffX12_117 rfl (fun _ => rfl) hl (by decide) hm (by decide) (by decide) (by decide) (fun hl hm => ?_)
  exact kk _ _ rfl rfl hl hm
set_option maxRecDepth 100000 in
set_option maxHeartbeats 4000000 in
theorem k_X12_4 {h h' : ai_H} {r : Option Value} {fs : List Value} {L : List va_E} (hl : fs.length = 73) (hm : L.length + 1 = 37) (kk : ∀ (fs' : List Value) (L' : List va_E), fs' = (((((((((fs.set 51 (.ref (h.1 + 37))).set 52 (.ref (h.1 + 38))).set 53 (.ref (h.1 + 39))).set 54 (.ref (h.1 + 40))).set 55 (.ref (h.1 + 41))).set 56 (.ref (h.1 + 42))).set 57 (.ref (h.1 + 43))).set 58 (.ref (h.1 + 44))).set 59 (.ref (h.1 + 45))) → L' = (((((((((L ++ [.inl (0, 256, .inl (fun _ => 0))]) ++ [.inl (0, 256, .inl (fun _ => 0))]) ++ [.inl (1, 256, .inr (.inl (fun _ => 0)))]) ++ [.inl (1, 256, .inr (.inl (fun _ => 0)))]) ++ [.inl (1, 256, .inr (.inl (fun _ => 0)))]) ++ [.inl (1, 256, .inr (.inl (fun _ => 0)))]) ++ [.inl (1, 256, .inr (.inl (fun _ => 0)))]) ++ [.inl (0, 256, .inl (fun _ => 0))]) ++ [.inl (0, 256, .inl (fun _ => 0))]) → fs'.length = 73 → L'.length + 1 = 46 → ai_R MX12_init 397 [.ref h.1, .float 0] [] (ap h (.inr (12, fs') :: L')) r h') : ai_R MX12_init 316 [.ref h.1, .float 0] [] (ap h (.inr (12, fs) :: L)) r h' := by
  refine rs_aload_n (pc := 316) dX12_init_316 rfl ?_
  refine rs_sipush (v := 256) (pc := 317) dX12_init_317 rfl ?_
  refine cw_fI (N := 256) (m := 37) (k := 51) (pc := 320) dX12_init_320 dX12_init_322 ffX12_120 rfl (fun _ => rfl) hl (by decide) hm (by decide) (by decide) (by decide) (fun hl hm => ?_)
  refine rs_aload_n (pc := 325) dX12_init_325 rfl ?_
  refine rs_sipush (v := 256) (pc := 326) dX12_init_326 rfl ?_
  refine cw_fI (N := 256) (m := 38) (k := 52) (pc := 329) dX12_init_329 dX12_init_331 ffX12_123 rfl (fun _ => rfl) hl (by decide) hm (by decide) (by decide) (by decide) (fun hl hm => ?_)
  refine rs_aload_n (pc := 334) dX12_init_334 rfl ?_
  refine rs_sipush (v := 256) (pc := 335) dX12_init_335 rfl ?_
  refine cw_fJ (N := 256) (m := 39) (k := 53) (pc := 338) dX12_init_338 dX12_init_340 ffX12_126 rfl (fun _ => rfl) hl (by decide) hm (by decide) (by decide) (by decide) (fun hl hm => ?_)
  refine rs_aload_n (pc := 343) dX12_init_343 rfl ?_
  refine rs_sipush (v := 256) (pc := 344) dX12_init_344 rfl ?_
  refine cw_fJ (N := 256) (m := 40) (k := 54) (pc := 347) dX12_init_347 dX12_init_349 ffX12_129 rfl (fun _ => rfl) hl (by decide) hm (by decide) (by decide) (by decide) (fun hl hm => ?_)
  refine rs_aload_n (pc := 352) dX12_init_352 rfl ?_
  refine rs_sipush (v := 256) (pc := 353) dX12_init_353 rfl ?_
  refine cw_fJ (N := 256) (m := 41) (k := 55) (pc := 356) dX12_init_356 dX12_init_358 ffX12_132 rfl (fun _ => rfl) hl (by decide) hm (by decide) (by decide) (by decide) (fun hl hm => ?_)
  refine rs_aload_n (pc := 361) dX12_init_361 rfl ?_
  refine rs_sipush (v := 256) (pc := 362) dX12_init_362 rfl ?_
  refine cw_fJ (N := 256) (m := 42) (k := 56) (pc := 365) dX12_init_365 dX12_init_367 ffX12_135 rfl (fun _ => rfl) hl (by decide) hm (by decide) (by decide) (by decide) (fun hl hm => ?_)
  refine rs_aload_n (pc := 370) dX12_init_370 rfl ?_
  refine rs_sipush (v := 256) (pc := 371) dX12_init_371 rfl ?_
  refine cw_fJ (N := 256) (m := 43) (k := 57) (pc := 374) dX12_init_374 dX12_init_376 ffX12_138 rfl (fun _ => rfl) hl (by decide) hm (by decide) (by decide) (by decide) (fun hl hm => ?_)
  refine rs_aload_n (pc := 379) dX12_init_379 rfl ?_
  refine rs_sipush (v := 256) (pc := 380) dX12_init_380 rfl ?_
  refine cw_fI (N := 256) (m := 44) (k := 58) (pc := 383) dX12_init_383 dX12_init_385 ffX12_141 rfl (fun _ => rfl) hl (by decide) hm (by decide) (by decide) (by decide) (fun hl hm => ?_)
  refine rs_aload_n (pc := 388) dX12_init_388 rfl ?_
  refine rs_sipush (v := 256) (pc := 389) dX12_init_389 rfl ?_
  refine cw_fI (N := 256) (m := 45) (k := 59) (pc := 392) dX12_init_392 dX12_init_394 ffX12_144 rfl (fun _ => rfl) hl (by decide) hm (by decide) (by decide) (by decide) (fun hl hm => ?_)
  exact kk _ _ rfl rfl hl hm
set_option maxRecDepth 100000 in
set_option maxHeartbeats 4000000 in
theorem k_X12_5 {h h' : ai_H} {r : Option Value} {fs : List Value} {L : List va_E} (hl : fs.length = 73) (hm : L.length + 1 = 46) (kk : ∀ (fs' : List Value) (L' : List va_E), fs' = (((((((((fs.set 61 (.ref (h.1 + 46))).set 62 (.ref (h.1 + 47))).set 63 (.ref (h.1 + 48))).set 64 (.ref (h.1 + 49))).set 65 (.ref (h.1 + 50))).set 66 (.ref (h.1 + 51))).set 68 (.ref (h.1 + 52))).set 69 (.ref (h.1 + 53))).set 70 (.ref (h.1 + 54))) → L' = (((((((((L ++ [.inl (0, 9, .inl (fun _ => 0))]) ++ [.inl (0, 9, .inl (fun _ => 0))]) ++ [.inl (0, 9, .inl (fun _ => 0))]) ++ [.inl (0, 16, .inl (fun _ => 0))]) ++ [.inl (1, 62, .inr (.inl (fun _ => 0)))]) ++ [.inl (2, 400, .inl (fun _ => 0))]) ++ [.inl (0, 15600, .inl (fun _ => 0))]) ++ [.inl (0, 6, .inl (fun _ => 0))]) ++ [.inl (2, 4, .inl (fun _ => 0))]) → fs'.length = 73 → L'.length + 1 = 55 → ai_R MX12_init 470 [.ref h.1, .float 0] [] (ap h (.inr (12, fs') :: L')) r h') : ai_R MX12_init 397 [.ref h.1, .float 0] [] (ap h (.inr (12, fs) :: L)) r h' := by
  refine rs_aload_n (pc := 397) dX12_init_397 rfl ?_
  refine rs_bipush (v := 9) (pc := 398) dX12_init_398 rfl ?_
  refine cw_fI (N := 9) (m := 46) (k := 61) (pc := 400) dX12_init_400 dX12_init_402 ffX12_147 rfl (fun _ => rfl) hl (by decide) hm (by decide) (by decide) (by decide) (fun hl hm => ?_)
  refine rs_aload_n (pc := 405) dX12_init_405 rfl ?_
  refine rs_bipush (v := 9) (pc := 406) dX12_init_406 rfl ?_
  refine cw_fI (N := 9) (m := 47) (k := 62) (pc := 408) dX12_init_408 dX12_init_410 ffX12_150 rfl (fun _ => rfl) hl (by decide) hm (by decide) (by decide) (by decide) (fun hl hm => ?_)
  refine rs_aload_n (pc := 413) dX12_init_413 rfl ?_
  refine rs_bipush (v := 9) (pc := 414) dX12_init_414 rfl ?_
  refine cw_fI (N := 9) (m := 48) (k := 63) (pc := 416) dX12_init_416 dX12_init_418 ffX12_153 rfl (fun _ => rfl) hl (by decide) hm (by decide) (by decide) (by decide) (fun hl hm => ?_)
  refine rs_aload_n (pc := 421) dX12_init_421 rfl ?_
  refine rs_bipush (v := 16) (pc := 422) dX12_init_422 rfl ?_
  refine cw_fI (N := 16) (m := 49) (k := 64) (pc := 424) dX12_init_424 dX12_init_426 ffX12_156 rfl (fun _ => rfl) hl (by decide) hm (by decide) (by decide) (by decide) (fun hl hm => ?_)
  refine rs_aload_n (pc := 429) dX12_init_429 rfl ?_
  refine rs_bipush (v := 62) (pc := 430) dX12_init_430 rfl ?_
  refine cw_fJ (N := 62) (m := 50) (k := 65) (pc := 432) dX12_init_432 dX12_init_434 ffX12_159 rfl (fun _ => rfl) hl (by decide) hm (by decide) (by decide) (by decide) (fun hl hm => ?_)
  refine rs_aload_n (pc := 437) dX12_init_437 rfl ?_
  refine rs_sipush (v := 400) (pc := 438) dX12_init_438 rfl ?_
  refine cw_fZ (N := 400) (m := 51) (k := 66) (pc := 441) dX12_init_441 dX12_init_443 ffX12_162 rfl (fun _ => rfl) hl (by decide) hm (by decide) (by decide) (by decide) (fun hl hm => ?_)
  refine rs_aload_n (pc := 446) dX12_init_446 rfl ?_
  refine rs_sipush (v := 15600) (pc := 447) dX12_init_447 rfl ?_
  refine cw_fI (N := 15600) (m := 52) (k := 68) (pc := 450) dX12_init_450 dX12_init_452 ffX12_166 rfl (fun _ => rfl) hl (by decide) hm (by decide) (by decide) (by decide) (fun hl hm => ?_)
  refine rs_aload_n (pc := 455) dX12_init_455 rfl ?_
  refine rs_bipush (v := 6) (pc := 456) dX12_init_456 rfl ?_
  refine cw_fI (N := 6) (m := 53) (k := 69) (pc := 458) dX12_init_458 dX12_init_460 ffX12_169 rfl (fun _ => rfl) hl (by decide) hm (by decide) (by decide) (by decide) (fun hl hm => ?_)
  refine rs_aload_n (pc := 463) dX12_init_463 rfl ?_
  refine rs_iconst (v := 4) (pc := 464) dX12_init_464 rfl ?_
  refine cw_fZ (N := 4) (m := 54) (k := 70) (pc := 465) dX12_init_465 dX12_init_467 ffX12_172 rfl (fun _ => rfl) hl (by decide) hm (by decide) (by decide) (by decide) (fun hl hm => ?_)
  exact kk _ _ rfl rfl hl hm
