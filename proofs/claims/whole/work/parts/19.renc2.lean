/-! the reference: encode, its walk -/
theorem fp_wp_h {G : fp_G} {d : Nat × Nat} {M : fp_M} {pc : Nat} {L : List (Option Value)} {st : List Value} {h h' : fp_H} {Q : Option Value → fp_H → Prop} (e : h = h') (k : fp_wp G d M pc L st h' Q) : fp_wp G d M pc L st h Q := e ▸ k
theorem dX11_encode_0 : decode cX11_encode 0 = .ok (.iload_n 1, 1) := by decide +kernel
theorem dX11_encode_1 : decode cX11_encode 1 = .ok (.ifCond .lt 54, 3) := by decide +kernel
theorem dX11_encode_4 : decode cX11_encode 4 = .ok (.iload_n 1, 1) := by decide +kernel
theorem dX11_encode_5 : decode cX11_encode 5 = .ok (.bipush 8, 2) := by decide +kernel
theorem dX11_encode_7 : decode cX11_encode 7 = .ok (.if_icmp .ge 48, 3) := by decide +kernel
theorem dX11_encode_10 : decode cX11_encode 10 = .ok (.aload_n 0, 1) := by decide +kernel
theorem dX11_encode_11 : decode cX11_encode 11 = .ok (.getfield 85, 3) := by decide +kernel
theorem dX11_encode_14 : decode cX11_encode 14 = .ok (.iload_n 1, 1) := by decide +kernel
theorem dX11_encode_15 : decode cX11_encode 15 = .ok (.baload, 1) := by decide +kernel
theorem dX11_encode_16 : decode cX11_encode 16 = .ok (.ifCond .ne 39, 3) := by decide +kernel
theorem dX11_encode_19 : decode cX11_encode 19 = .ok (.aload_n 0, 1) := by decide +kernel
theorem dX11_encode_20 : decode cX11_encode 20 = .ok (.iload_n 1, 1) := by decide +kernel
theorem dX11_encode_21 : decode cX11_encode 21 = .ok (.iconst 0, 1) := by decide +kernel
theorem dX11_encode_22 : decode cX11_encode 22 = .ok (.invokevirtual 192, 3) := by decide +kernel
theorem dX11_encode_25 : decode cX11_encode 25 = .ok (.bipush 8, 2) := by decide +kernel
theorem dX11_encode_27 : decode cX11_encode 27 = .ok (.if_icmp .eq 28, 3) := by decide +kernel
theorem dX11_encode_30 : decode cX11_encode 30 = .ok (.aload_n 0, 1) := by decide +kernel
theorem dX11_encode_31 : decode cX11_encode 31 = .ok (.getfield 143, 3) := by decide +kernel
theorem dX11_encode_34 : decode cX11_encode 34 = .ok (.sipush 200, 3) := by decide +kernel
theorem dX11_encode_37 : decode cX11_encode 37 = .ok (.if_icmp .eq 18, 3) := by decide +kernel
theorem dX11_encode_40 : decode cX11_encode 40 = .ok (.aload_n 0, 1) := by decide +kernel
theorem dX11_encode_41 : decode cX11_encode 41 = .ok (.getfield 104, 3) := by decide +kernel
theorem dX11_encode_44 : decode cX11_encode 44 = .ok (.aload_n 0, 1) := by decide +kernel
theorem dX11_encode_45 : decode cX11_encode 45 = .ok (.getfield 196, 3) := by decide +kernel
theorem dX11_encode_48 : decode cX11_encode 48 = .ok (.isub, 1) := by decide +kernel
theorem dX11_encode_49 : decode cX11_encode 49 = .ok (.sipush 5000, 3) := by decide +kernel
theorem dX11_encode_52 : decode cX11_encode 52 = .ok (.if_icmp .le 5, 3) := by decide +kernel
theorem dX11_encode_55 : decode cX11_encode 55 = .ok (.iconst (-1), 1) := by decide +kernel
theorem dX11_encode_56 : decode cX11_encode 56 = .ok (.ireturn, 1) := by decide +kernel
theorem dX11_encode_57 : decode cX11_encode 57 = .ok (.aload_n 0, 1) := by decide +kernel
theorem dX11_encode_58 : decode cX11_encode 58 = .ok (.iload_n 1, 1) := by decide +kernel
theorem dX11_encode_59 : decode cX11_encode 59 = .ok (.invokevirtual 149, 3) := by decide +kernel
theorem dX11_encode_62 : decode cX11_encode 62 = .ok (.ifCond .ne 14, 3) := by decide +kernel
theorem dX11_encode_65 : decode cX11_encode 65 = .ok (.aload_n 0, 1) := by decide +kernel
theorem dX11_encode_66 : decode cX11_encode 66 = .ok (.invokevirtual 199, 3) := by decide +kernel
theorem dX11_encode_69 : decode cX11_encode 69 = .ok (.aload_n 0, 1) := by decide +kernel
theorem dX11_encode_70 : decode cX11_encode 70 = .ok (.getfield 95, 3) := by decide +kernel
theorem dX11_encode_73 : decode cX11_encode 73 = .ok (.if_icmp .ge 7, 3) := by decide +kernel
theorem dX11_encode_76 : decode cX11_encode 76 = .ok (.iconst 1, 1) := by decide +kernel
theorem dX11_encode_77 : decode cX11_encode 77 = .ok (.goto 4, 3) := by decide +kernel
theorem dX11_encode_80 : decode cX11_encode 80 = .ok (.iconst 0, 1) := by decide +kernel
theorem dX11_encode_81 : decode cX11_encode 81 = .ok (.istore_n 2, 1) := by decide +kernel
theorem dX11_encode_82 : decode cX11_encode 82 = .ok (.aload_n 0, 1) := by decide +kernel
theorem dX11_encode_83 : decode cX11_encode 83 = .ok (.getfield 137, 3) := by decide +kernel
theorem dX11_encode_86 : decode cX11_encode 86 = .ok (.istore_n 3, 1) := by decide +kernel
theorem dX11_encode_87 : decode cX11_encode 87 = .ok (.aload_n 0, 1) := by decide +kernel
theorem dX11_encode_88 : decode cX11_encode 88 = .ok (.iconst 0, 1) := by decide +kernel
theorem dX11_encode_89 : decode cX11_encode 89 = .ok (.putfield 110, 3) := by decide +kernel
theorem dX11_encode_92 : decode cX11_encode 92 = .ok (.aload_n 0, 1) := by decide +kernel
theorem dX11_encode_93 : decode cX11_encode 93 = .ok (.getfield 49, 3) := by decide +kernel
theorem dX11_encode_96 : decode cX11_encode 96 = .ok (.aload_n 0, 1) := by decide +kernel
theorem dX11_encode_97 : decode cX11_encode 97 = .ok (.getfield 143, 3) := by decide +kernel
theorem dX11_encode_100 : decode cX11_encode 100 = .ok (.iconst 0, 1) := by decide +kernel
theorem dX11_encode_101 : decode cX11_encode 101 = .ok (.iastore, 1) := by decide +kernel
theorem dX11_encode_102 : decode cX11_encode 102 = .ok (.aload_n 0, 1) := by decide +kernel
theorem dX11_encode_103 : decode cX11_encode 103 = .ok (.getfield 73, 3) := by decide +kernel
theorem dX11_encode_106 : decode cX11_encode 106 = .ok (.aload_n 0, 1) := by decide +kernel
theorem dX11_encode_107 : decode cX11_encode 107 = .ok (.getfield 143, 3) := by decide +kernel
theorem dX11_encode_110 : decode cX11_encode 110 = .ok (.iconst 0, 1) := by decide +kernel
theorem dX11_encode_111 : decode cX11_encode 111 = .ok (.iastore, 1) := by decide +kernel
theorem dX11_encode_112 : decode cX11_encode 112 = .ok (.iconst 0, 1) := by decide +kernel
theorem dX11_encode_113 : decode cX11_encode 113 = .ok (.istore 4, 2) := by decide +kernel
theorem dX11_encode_115 : decode cX11_encode 115 = .ok (.iload 4, 2) := by decide +kernel
theorem dX11_encode_117 : decode cX11_encode 117 = .ok (.aload_n 0, 1) := by decide +kernel
theorem dX11_encode_118 : decode cX11_encode 118 = .ok (.getfield 124, 3) := by decide +kernel
theorem dX11_encode_121 : decode cX11_encode 121 = .ok (.if_icmp .ge 17, 3) := by decide +kernel
theorem dX11_encode_124 : decode cX11_encode 124 = .ok (.aload_n 0, 1) := by decide +kernel
theorem dX11_encode_125 : decode cX11_encode 125 = .ok (.iload 4, 2) := by decide +kernel
theorem dX11_encode_127 : decode cX11_encode 127 = .ok (.iload_n 3, 1) := by decide +kernel
theorem dX11_encode_128 : decode cX11_encode 128 = .ok (.iload_n 2, 1) := by decide +kernel
theorem dX11_encode_129 : decode cX11_encode 129 = .ok (.invokevirtual 203, 3) := by decide +kernel
theorem dX11_encode_132 : decode cX11_encode 132 = .ok (.iinc 4 1, 3) := by decide +kernel
theorem dX11_encode_135 : decode cX11_encode 135 = .ok (.goto (-20), 3) := by decide +kernel
theorem dX11_encode_138 : decode cX11_encode 138 = .ok (.aload_n 0, 1) := by decide +kernel
theorem dX11_encode_139 : decode cX11_encode 139 = .ok (.getfield 49, 3) := by decide +kernel
theorem dX11_encode_142 : decode cX11_encode 142 = .ok (.aload_n 0, 1) := by decide +kernel
theorem dX11_encode_143 : decode cX11_encode 143 = .ok (.getfield 143, 3) := by decide +kernel
theorem dX11_encode_146 : decode cX11_encode 146 = .ok (.iaload, 1) := by decide +kernel
theorem dX11_encode_147 : decode cX11_encode 147 = .ok (.istore 4, 2) := by decide +kernel
theorem dX11_encode_149 : decode cX11_encode 149 = .ok (.aload_n 0, 1) := by decide +kernel
theorem dX11_encode_150 : decode cX11_encode 150 = .ok (.getfield 46, 3) := by decide +kernel
theorem dX11_encode_153 : decode cX11_encode 153 = .ok (.aload_n 0, 1) := by decide +kernel
theorem dX11_encode_154 : decode cX11_encode 154 = .ok (.getfield 143, 3) := by decide +kernel
theorem dX11_encode_157 : decode cX11_encode 157 = .ok (.iload_n 1, 1) := by decide +kernel
theorem dX11_encode_158 : decode cX11_encode 158 = .ok (.iastore, 1) := by decide +kernel
theorem dX11_encode_159 : decode cX11_encode 159 = .ok (.aload_n 0, 1) := by decide +kernel
theorem dX11_encode_160 : decode cX11_encode 160 = .ok (.getfield 55, 3) := by decide +kernel
theorem dX11_encode_163 : decode cX11_encode 163 = .ok (.aload_n 0, 1) := by decide +kernel
theorem dX11_encode_164 : decode cX11_encode 164 = .ok (.getfield 143, 3) := by decide +kernel
theorem dX11_encode_167 : decode cX11_encode 167 = .ok (.iconst 0, 1) := by decide +kernel
theorem dX11_encode_168 : decode cX11_encode 168 = .ok (.iastore, 1) := by decide +kernel
theorem dX11_encode_169 : decode cX11_encode 169 = .ok (.aload_n 0, 1) := by decide +kernel
theorem dX11_encode_170 : decode cX11_encode 170 = .ok (.getfield 58, 3) := by decide +kernel
theorem dX11_encode_173 : decode cX11_encode 173 = .ok (.aload_n 0, 1) := by decide +kernel
theorem dX11_encode_174 : decode cX11_encode 174 = .ok (.getfield 143, 3) := by decide +kernel
theorem dX11_encode_177 : decode cX11_encode 177 = .ok (.aload_n 0, 1) := by decide +kernel
theorem dX11_encode_178 : decode cX11_encode 178 = .ok (.getfield 124, 3) := by decide +kernel
theorem dX11_encode_181 : decode cX11_encode 181 = .ok (.iastore, 1) := by decide +kernel
theorem dX11_encode_182 : decode cX11_encode 182 = .ok (.aload_n 0, 1) := by decide +kernel
theorem dX11_encode_183 : decode cX11_encode 183 = .ok (.getfield 52, 3) := by decide +kernel
theorem dX11_encode_186 : decode cX11_encode 186 = .ok (.aload_n 0, 1) := by decide +kernel
theorem dX11_encode_187 : decode cX11_encode 187 = .ok (.getfield 143, 3) := by decide +kernel
theorem dX11_encode_190 : decode cX11_encode 190 = .ok (.iload 4, 2) := by decide +kernel
theorem dX11_encode_192 : decode cX11_encode 192 = .ok (.ifCond .le 7, 3) := by decide +kernel
theorem dX11_encode_195 : decode cX11_encode 195 = .ok (.iconst 1, 1) := by decide +kernel
theorem dX11_encode_196 : decode cX11_encode 196 = .ok (.goto 4, 3) := by decide +kernel
theorem dX11_encode_199 : decode cX11_encode 199 = .ok (.iconst 0, 1) := by decide +kernel
theorem dX11_encode_200 : decode cX11_encode 200 = .ok (.bastore, 1) := by decide +kernel
theorem dX11_encode_201 : decode cX11_encode 201 = .ok (.aload_n 0, 1) := by decide +kernel
theorem dX11_encode_202 : decode cX11_encode 202 = .ok (.getfield 76, 3) := by decide +kernel
theorem dX11_encode_205 : decode cX11_encode 205 = .ok (.aload_n 0, 1) := by decide +kernel
theorem dX11_encode_206 : decode cX11_encode 206 = .ok (.getfield 143, 3) := by decide +kernel
theorem dX11_encode_209 : decode cX11_encode 209 = .ok (.aload_n 0, 1) := by decide +kernel
theorem dX11_encode_210 : decode cX11_encode 210 = .ok (.getfield 113, 3) := by decide +kernel
theorem dX11_encode_213 : decode cX11_encode 213 = .ok (.iastore, 1) := by decide +kernel
theorem dX11_encode_214 : decode cX11_encode 214 = .ok (.aload_n 0, 1) := by decide +kernel
theorem dX11_encode_215 : decode cX11_encode 215 = .ok (.iconst 3, 1) := by decide +kernel
theorem dX11_encode_216 : decode cX11_encode 216 = .ok (.iconst 0, 1) := by decide +kernel
theorem dX11_encode_217 : decode cX11_encode 217 = .ok (.bipush 8, 2) := by decide +kernel
theorem dX11_encode_219 : decode cX11_encode 219 = .ok (.iload 4, 2) := by decide +kernel
theorem dX11_encode_221 : decode cX11_encode 221 = .ok (.ifCond .ne 7, 3) := by decide +kernel
theorem dX11_encode_224 : decode cX11_encode 224 = .ok (.iconst 0, 1) := by decide +kernel
theorem dX11_encode_225 : decode cX11_encode 225 = .ok (.goto 17, 3) := by decide +kernel
theorem dX11_encode_228 : decode cX11_encode 228 = .ok (.iload 4, 2) := by decide +kernel
theorem dX11_encode_230 : decode cX11_encode 230 = .ok (.iconst 2, 1) := by decide +kernel
theorem dX11_encode_231 : decode cX11_encode 231 = .ok (.aload_n 0, 1) := by decide +kernel
theorem dX11_encode_232 : decode cX11_encode 232 = .ok (.getfield 91, 3) := by decide +kernel
theorem dX11_encode_235 : decode cX11_encode 235 = .ok (.bipush 32, 2) := by decide +kernel
theorem dX11_encode_237 : decode cX11_encode 237 = .ok (.idiv, 1) := by decide +kernel
theorem dX11_encode_238 : decode cX11_encode 238 = .ok (.imul, 1) := by decide +kernel
theorem dX11_encode_239 : decode cX11_encode 239 = .ok (.irem, 1) := by decide +kernel
theorem dX11_encode_240 : decode cX11_encode 240 = .ok (.iconst 1, 1) := by decide +kernel
theorem dX11_encode_241 : decode cX11_encode 241 = .ok (.iadd, 1) := by decide +kernel
theorem dX11_encode_242 : decode cX11_encode 242 = .ok (.invokevirtual 120, 3) := by decide +kernel
theorem dX11_encode_245 : decode cX11_encode 245 = .ok (.iload_n 3, 1) := by decide +kernel
theorem dX11_encode_246 : decode cX11_encode 246 = .ok (.iload 4, 2) := by decide +kernel
theorem dX11_encode_248 : decode cX11_encode 248 = .ok (.if_icmp .lt 18, 3) := by decide +kernel
theorem dX11_encode_251 : decode cX11_encode 251 = .ok (.aload_n 0, 1) := by decide +kernel
theorem dX11_encode_252 : decode cX11_encode 252 = .ok (.iconst 3, 1) := by decide +kernel
theorem dX11_encode_253 : decode cX11_encode 253 = .ok (.iconst 0, 1) := by decide +kernel
theorem dX11_encode_254 : decode cX11_encode 254 = .ok (.bipush 7, 2) := by decide +kernel
theorem dX11_encode_256 : decode cX11_encode 256 = .ok (.iload_n 3, 1) := by decide +kernel
theorem dX11_encode_257 : decode cX11_encode 257 = .ok (.iload 4, 2) := by decide +kernel
theorem dX11_encode_259 : decode cX11_encode 259 = .ok (.isub, 1) := by decide +kernel
theorem dX11_encode_260 : decode cX11_encode 260 = .ok (.invokevirtual 120, 3) := by decide +kernel
theorem dX11_encode_263 : decode cX11_encode 263 = .ok (.goto 19, 3) := by decide +kernel
theorem dX11_encode_266 : decode cX11_encode 266 = .ok (.aload_n 0, 1) := by decide +kernel
theorem dX11_encode_267 : decode cX11_encode 267 = .ok (.iconst 3, 1) := by decide +kernel
theorem dX11_encode_268 : decode cX11_encode 268 = .ok (.sipush 128, 3) := by decide +kernel
theorem dX11_encode_271 : decode cX11_encode 271 = .ok (.bipush 7, 2) := by decide +kernel
theorem dX11_encode_273 : decode cX11_encode 273 = .ok (.iload 4, 2) := by decide +kernel
theorem dX11_encode_275 : decode cX11_encode 275 = .ok (.iload_n 3, 1) := by decide +kernel
theorem dX11_encode_276 : decode cX11_encode 276 = .ok (.isub, 1) := by decide +kernel
theorem dX11_encode_277 : decode cX11_encode 277 = .ok (.iconst 1, 1) := by decide +kernel
theorem dX11_encode_278 : decode cX11_encode 278 = .ok (.isub, 1) := by decide +kernel
theorem dX11_encode_279 : decode cX11_encode 279 = .ok (.invokevirtual 120, 3) := by decide +kernel
theorem dX11_encode_282 : decode cX11_encode 282 = .ok (.iconst 0, 1) := by decide +kernel
theorem dX11_encode_283 : decode cX11_encode 283 = .ok (.istore 5, 2) := by decide +kernel
theorem dX11_encode_285 : decode cX11_encode 285 = .ok (.iload 5, 2) := by decide +kernel
theorem dX11_encode_287 : decode cX11_encode 287 = .ok (.aload_n 0, 1) := by decide +kernel
theorem dX11_encode_288 : decode cX11_encode 288 = .ok (.getfield 110, 3) := by decide +kernel
theorem dX11_encode_291 : decode cX11_encode 291 = .ok (.if_icmp .ge 21, 3) := by decide +kernel
theorem dX11_encode_294 : decode cX11_encode 294 = .ok (.aload_n 0, 1) := by decide +kernel
theorem dX11_encode_295 : decode cX11_encode 295 = .ok (.iconst 3, 1) := by decide +kernel
theorem dX11_encode_296 : decode cX11_encode 296 = .ok (.aload_n 0, 1) := by decide +kernel
theorem dX11_encode_297 : decode cX11_encode 297 = .ok (.getfield 88, 3) := by decide +kernel
theorem dX11_encode_300 : decode cX11_encode 300 = .ok (.iload 5, 2) := by decide +kernel
theorem dX11_encode_302 : decode cX11_encode 302 = .ok (.iaload, 1) := by decide +kernel
theorem dX11_encode_303 : decode cX11_encode 303 = .ok (.invokevirtual 116, 3) := by decide +kernel
theorem dX11_encode_306 : decode cX11_encode 306 = .ok (.iinc 5 1, 3) := by decide +kernel
theorem dX11_encode_309 : decode cX11_encode 309 = .ok (.goto (-24), 3) := by decide +kernel
theorem dX11_encode_312 : decode cX11_encode 312 = .ok (.aload_n 0, 1) := by decide +kernel
theorem dX11_encode_313 : decode cX11_encode 313 = .ok (.getfield 79, 3) := by decide +kernel
theorem dX11_encode_316 : decode cX11_encode 316 = .ok (.aload_n 0, 1) := by decide +kernel
theorem dX11_encode_317 : decode cX11_encode 317 = .ok (.getfield 143, 3) := by decide +kernel
theorem dX11_encode_320 : decode cX11_encode 320 = .ok (.aload_n 0, 1) := by decide +kernel
theorem dX11_encode_321 : decode cX11_encode 321 = .ok (.getfield 113, 3) := by decide +kernel
theorem dX11_encode_324 : decode cX11_encode 324 = .ok (.aload_n 0, 1) := by decide +kernel
theorem dX11_encode_325 : decode cX11_encode 325 = .ok (.getfield 76, 3) := by decide +kernel
theorem dX11_encode_328 : decode cX11_encode 328 = .ok (.aload_n 0, 1) := by decide +kernel
theorem dX11_encode_329 : decode cX11_encode 329 = .ok (.getfield 143, 3) := by decide +kernel
theorem dX11_encode_332 : decode cX11_encode 332 = .ok (.iaload, 1) := by decide +kernel
theorem dX11_encode_333 : decode cX11_encode 333 = .ok (.isub, 1) := by decide +kernel
theorem dX11_encode_334 : decode cX11_encode 334 = .ok (.iastore, 1) := by decide +kernel
theorem dX11_encode_335 : decode cX11_encode 335 = .ok (.aload_n 0, 1) := by decide +kernel
theorem dX11_encode_336 : decode cX11_encode 336 = .ok (.dup, 1) := by decide +kernel
theorem dX11_encode_337 : decode cX11_encode 337 = .ok (.getfield 143, 3) := by decide +kernel
theorem dX11_encode_340 : decode cX11_encode 340 = .ok (.iconst 1, 1) := by decide +kernel
theorem dX11_encode_341 : decode cX11_encode 341 = .ok (.iadd, 1) := by decide +kernel
theorem dX11_encode_342 : decode cX11_encode 342 = .ok (.putfield 143, 3) := by decide +kernel
theorem dX11_encode_345 : decode cX11_encode 345 = .ok (.aload_n 0, 1) := by decide +kernel
theorem dX11_encode_346 : decode cX11_encode 346 = .ok (.iconst 0, 1) := by decide +kernel
theorem dX11_encode_347 : decode cX11_encode 347 = .ok (.putfield 124, 3) := by decide +kernel
theorem dX11_encode_350 : decode cX11_encode 350 = .ok (.aload_n 0, 1) := by decide +kernel
theorem dX11_encode_351 : decode cX11_encode 351 = .ok (.getfield 79, 3) := by decide +kernel
theorem dX11_encode_354 : decode cX11_encode 354 = .ok (.aload_n 0, 1) := by decide +kernel
theorem dX11_encode_355 : decode cX11_encode 355 = .ok (.getfield 143, 3) := by decide +kernel
theorem dX11_encode_358 : decode cX11_encode 358 = .ok (.iconst 1, 1) := by decide +kernel
theorem dX11_encode_359 : decode cX11_encode 359 = .ok (.isub, 1) := by decide +kernel
theorem dX11_encode_360 : decode cX11_encode 360 = .ok (.iaload, 1) := by decide +kernel
theorem dX11_encode_361 : decode cX11_encode 361 = .ok (.ireturn, 1) := by decide +kernel
section RE
variable {G : fp_G} {h0 : fp_H} {m : Nat}
theorem r_front_len (p : rs) (base : Nat) : (r_front p base).length ≤ 12 := by
  have h1 := nb_len 0 8 (if p.2.1 12 (p.1 28) = 0 then 0 else p.2.1 12 (p.1 28) % (2 * (p.1 0 / 32)) + 1)
  have h2 : (if p.2.1 12 (p.1 28) ≤ base then nb 0 7 (base - p.2.1 12 (p.1 28)) else nb 128 7 (p.2.1 12 (p.1 28) - base - 1)).length ≤ 6 := by split <;> exact nb_len _ _ _
  unfold r_front
  rw [List.length_append]
  exact Nat.add_le_add h1 h2
theorem r_lines_s (p : rs) (n : Nat) : r_lines p (n + 1) = r_lines p n ++ [p.2.1 25 n] := by simp [r_lines, List.range_succ]
theorem r_lines_len (p : rs) (n : Nat) : (r_lines p n).length = n := by simp [r_lines]
set_option maxHeartbeats 4000000 in
theorem w_enc {p1 : rs} {s base : Nat} {o2 o4 : Int32} {Q : Option Value → fp_H → Prop} (okp : rok p1) (hs : s < 8) (hsec : p1.1 28 < 200) (h44 : p1.1 44 ≤ 228) (h41 : p1.1 41 + 240 ≤ 60000) (hcap : p1.2.1 12 (p1.1 28) ≠ 0 → 32 ≤ p1.1 0) (h0c : p1.1 0 ≤ 400) (hb : base < 2 ^ 28)
    (hQ : Q (some (.int (nI ((r_enc3 (r_lays (r_enc2 p1 s) 3 (r_front p1 base ++ r_lines p1 (p1.1 44)))).2.1 22 (p1.1 28))))) (r_hp h0 m (r_enc3 (r_lays (r_enc2 p1 s) 3 (r_front p1 base ++ r_lines p1 (p1.1 44)))))) :
    fp_wp G rm_X11_encode M_X11_encode 138 [some (.ref m), some (.int (nI s)), some (.int o2), some (.int (nI base)), some (.int o4), none] [] (r_hp h0 m p1) Q := by
  have o12 := okp.2.1 12 (p1.1 28)
  have hfl := r_front_len p1 base
  have hll := r_lines_len p1 (p1.1 44)
  generalize hr : p1.2.1 12 (p1.1 28) = r at *
  refine wp_aload_n dX11_encode_138 rfl ?_
  refine wr_geta 30 12 dX11_encode_139 fl_X11_49 ⟨by decide, rfl⟩ ?_
  refine wp_aload_n dX11_encode_142 rfl ?_
  refine wr_geti 28 dX11_encode_143 fl_X11_143 ⟨by decide, rfl⟩ ?_
  refine wr_iald dX11_encode_146 ⟨by decide, rfl⟩ rfl hsec (by decide) ?_
  refine wp_istore dX11_encode_147 (Nat.le_of_ble_eq_true rfl) rfl ?_
  rw [hr]
  refine wp_eqL (L' := [some (.ref m), some (.int (nI s)), some (.int o2), some (.int (nI base)), some (.int (nI r)), none]) rfl ?_
  refine wp_aload_n dX11_encode_149 rfl ?_
  refine wr_geta 29 11 dX11_encode_150 fl_X11_46 ⟨by decide, rfl⟩ ?_
  refine wp_aload_n dX11_encode_153 rfl ?_
  refine wr_geti 28 dX11_encode_154 fl_X11_143 ⟨by decide, rfl⟩ ?_
  refine wp_iload_n dX11_encode_157 rfl ?_
  refine wr_iast dX11_encode_158 ⟨by decide, rfl⟩ rfl hsec (by decide) rfl ?_
  refine wp_aload_n dX11_encode_159 rfl ?_
  refine wr_geta 32 14 dX11_encode_160 fl_X11_55 ⟨by decide, rfl⟩ ?_
  refine wp_aload_n dX11_encode_163 rfl ?_
  refine wr_geti 28 dX11_encode_164 fl_X11_143 ⟨by decide, rfl⟩ ?_
  refine wp_iconst (v := 0) dX11_encode_167 rfl ?_
  refine wr_iast dX11_encode_168 ⟨by decide, rfl⟩ rfl hsec (by decide) (show (0 : Int32) = nI 0 from rfl) ?_
  refine wp_aload_n dX11_encode_169 rfl ?_
  refine wr_geta 33 15 dX11_encode_170 fl_X11_58 ⟨by decide, rfl⟩ ?_
  refine wp_aload_n dX11_encode_173 rfl ?_
  refine wr_geti 28 dX11_encode_174 fl_X11_143 ⟨by decide, rfl⟩ ?_
  refine wp_aload_n dX11_encode_177 rfl ?_
  refine wr_geti 2 dX11_encode_178 fl_X11_124 ⟨by decide, rfl⟩ ?_
  refine wr_iast dX11_encode_181 ⟨by decide, rfl⟩ rfl hsec (by decide) rfl ?_
  refine wp_aload_n dX11_encode_182 rfl ?_
  refine wr_geta 31 13 dX11_encode_183 fl_X11_52 ⟨by decide, rfl⟩ ?_
  refine wp_aload_n dX11_encode_186 rfl ?_
  refine wr_geti 28 dX11_encode_187 fl_X11_143 ⟨by decide, rfl⟩ ?_
  refine wp_iload dX11_encode_190 rfl ?_
  -- the rest, from the store of open on
  have key : ∀ b : Bool, b = decide (0 < r) → fp_wp G rm_X11_encode M_X11_encode 200 [some (.ref m), some (.int (nI s)), some (.int o2), some (.int (nI base)), some (.int (nI r)), none] [.int (nI (b2n b)), .int (nI (p1.1 28)), .ref (m + (13 + 1))] (r_hp h0 m (r_sa (r_sa (r_sa p1 11 (p1.1 28) s) 14 (p1.1 28) 0) 15 (p1.1 28) (p1.1 2))) Q := by
    intro b hbb
    refine wr_zast dX11_encode_200 ⟨by decide, rfl⟩ rfl hsec (by decide) rfl (by unfold b2n; split <;> decide) ?_
    refine wp_aload_n dX11_encode_201 rfl ?_
    refine wr_geta 39 21 dX11_encode_202 fl_X11_76 ⟨by decide, rfl⟩ ?_
    refine wp_aload_n dX11_encode_205 rfl ?_
    refine wr_geti 28 dX11_encode_206 fl_X11_143 ⟨by decide, rfl⟩ ?_
    refine wp_aload_n dX11_encode_209 rfl ?_
    refine wr_geti 41 dX11_encode_210 fl_X11_113 ⟨by decide, rfl⟩ ?_
    refine wr_iast dX11_encode_213 ⟨by decide, rfl⟩ rfl hsec (by decide) rfl ?_
    have hq5 : r_sa (r_sa (r_sa (r_sa (r_sa p1 11 (p1.1 28) s) 14 (p1.1 28) 0) 15 (p1.1 28) (p1.1 2)) 13 (p1.1 28) (b2n b)) 21 (p1.1 28) (p1.1 41) = r_enc2 p1 s := by rw [r_enc2, hbb, hr]
    have hq5' : r_sa (r_sa (r_sa (r_sa (r_sa p1 11 (p1.1 28) s) 14 (p1.1 28) 0) 15 (p1.1 28) (p1.1 2)) 13 ((r_sa (r_sa (r_sa p1 11 (p1.1 28) s) 14 (p1.1 28) 0) 15 (p1.1 28) (p1.1 2)).1 28) (b2n b)) 21 (p1.1 28) (p1.1 41) = r_enc2 p1 s := hq5
    refine fp_wp_h (h' := r_hp h0 m (r_enc2 p1 s)) (by rw [← hq5]; rfl) ?_
    have z1 : (r_enc2 p1 s).1 = p1.1 := rfl
    have z25 : (r_enc2 p1 s).2.1 25 = p1.2.1 25 := by funext i; simp [r_enc2, r_sa]
    have z21 : (r_enc2 p1 s).2.1 21 (p1.1 28) = p1.1 41 := by simp [r_enc2, r_sa]
    have hfr : r_front p1 base = nb 0 8 (if r = 0 then 0 else r % (2 * (p1.1 0 / 32)) + 1) ++ (if r ≤ base then nb 0 7 (base - r) else nb 128 7 (r - base - 1)) := by rw [r_front, hr]
    rw [hfr] at hfl hQ
    generalize r_enc2 p1 s = q5 at z1 z25 z21 hQ ⊢
    have z41 : q5.1 41 = p1.1 41 := by rw [z1]
    -- behind both numbers
    have lines : ∀ q7 : rs, q7.1 28 = p1.1 28 → q7.1 44 = p1.1 44 → q7.2.1 25 = p1.2.1 25 → q7.2.1 21 (p1.1 28) = p1.1 41 → q7.1 41 ≤ p1.1 41 + 12 → p1.1 41 ≤ q7.1 41 → Q (some (.int (nI ((r_enc3 (r_lays q7 3 (r_lines p1 (p1.1 44)))).2.1 22 (p1.1 28))))) (r_hp h0 m (r_enc3 (r_lays q7 3 (r_lines p1 (p1.1 44))))) →
        fp_wp G rm_X11_encode M_X11_encode 282 [some (.ref m), some (.int (nI s)), some (.int o2), some (.int (nI base)), some (.int (nI r)), none] [] (r_hp h0 m q7) Q := by
      intro q7 y28 y44 y25 y21 y41 y41' hQ7
      refine wp_iconst (v := 0) dX11_encode_282 rfl ?_
      refine wp_istore dX11_encode_283 (Nat.le_of_ble_eq_true rfl) rfl ?_
      have loop : ∀ n k : Nat, k ≤ p1.1 44 → p1.1 44 - k < n → fp_wp G rm_X11_encode M_X11_encode 285 [some (.ref m), some (.int (nI s)), some (.int o2), some (.int (nI base)), some (.int (nI r)), some (.int (nI k))] [] (r_hp h0 m (r_lays q7 3 (r_lines p1 k))) Q := by
        intro n
        induction n with
        | zero => intro k _ h2; omega
        | succ n ih =>
          intro k hk hn
          have k44 : (r_lays q7 3 (r_lines p1 k)).1 44 = p1.1 44 := by rw [r_lays_k (by decide), y44]
          have k25 : (r_lays q7 3 (r_lines p1 k)).2.1 25 = p1.2.1 25 := by rw [r_lays_a (by decide), y25]
          have k28 : (r_lays q7 3 (r_lines p1 k)).1 28 = p1.1 28 := by rw [r_lays_k (by decide), y28]
          have k21 : (r_lays q7 3 (r_lines p1 k)).2.1 21 = q7.2.1 21 := r_lays_a (by decide) _ _
          have k41 : (r_lays q7 3 (r_lines p1 k)).1 41 = q7.1 41 + k := by
            have := r_lays_c 3 (r_lines p1 k) q7
            rw [r_lines_len] at this
            exact this
          refine wp_iload dX11_encode_285 rfl ?_
          refine wp_aload_n dX11_encode_287 rfl ?_
          refine wr_geti 44 dX11_encode_288 fl_X11_110 ⟨by decide, rfl⟩ ?_
          refine wp_icmp_ge (tgt := 312) dX11_encode_291 rfl (fun c_291 => ?_) (fun c_291 => ?_)
          · rw [k44] at c_291
            have e : k = p1.1 44 := by
              have := (nI_leI (by omega) (by omega)).mp c_291
              omega
            subst e
            generalize r_lays q7 3 (r_lines p1 (p1.1 44)) = q8 at k44 k25 k28 k21 k41 hQ7 ⊢
            have hsec8 : q8.1 28 < 200 := by omega
            have hsub : q8.2.1 21 (q8.1 28) ≤ q8.1 41 := by rw [k21, k28, y21, k41]; omega
            refine wp_aload_n dX11_encode_312 rfl ?_
            refine wr_geta 40 22 dX11_encode_313 fl_X11_79 ⟨by decide, rfl⟩ ?_
            refine wp_aload_n dX11_encode_316 rfl ?_
            refine wr_geti 28 dX11_encode_317 fl_X11_143 ⟨by decide, rfl⟩ ?_
            refine wp_aload_n dX11_encode_320 rfl ?_
            refine wr_geti 41 dX11_encode_321 fl_X11_113 ⟨by decide, rfl⟩ ?_
            refine wp_aload_n dX11_encode_324 rfl ?_
            refine wr_geta 39 21 dX11_encode_325 fl_X11_76 ⟨by decide, rfl⟩ ?_
            refine wp_aload_n dX11_encode_328 rfl ?_
            refine wr_geti 28 dX11_encode_329 fl_X11_143 ⟨by decide, rfl⟩ ?_
            refine wr_iald dX11_encode_332 ⟨by decide, rfl⟩ rfl hsec8 (by decide) ?_
            refine wp_isub dX11_encode_333 ?_
            rw [pk_sub hsub]
            refine wr_iast dX11_encode_334 ⟨by decide, rfl⟩ rfl hsec8 (by decide) rfl ?_
            refine wp_aload_n dX11_encode_335 rfl ?_
            refine wp_dup dX11_encode_336 rfl ?_
            refine wr_geti 28 dX11_encode_337 fl_X11_143 ⟨by decide, rfl⟩ ?_
            refine wp_iconst (v := 1) dX11_encode_340 rfl ?_
            refine wp_iadd dX11_encode_341 ?_
            refine wr_puti dX11_encode_342 (fs_X11_143 _) ⟨by decide, rfl⟩ (nI_1 _) ?_
            refine wp_aload_n dX11_encode_345 rfl ?_
            refine wp_iconst (v := 0) dX11_encode_346 rfl ?_
            refine wr_puti dX11_encode_347 (fs_X11_124 _) ⟨by decide, rfl⟩ (show (0 : Int32) = nI 0 from rfl) ?_
            refine wp_aload_n dX11_encode_350 rfl ?_
            refine wr_geta 40 22 dX11_encode_351 fl_X11_79 ⟨by decide, rfl⟩ ?_
            refine wp_aload_n dX11_encode_354 rfl ?_
            refine wr_geti 28 dX11_encode_355 fl_X11_143 ⟨by decide, rfl⟩ ?_
            refine wp_iconst (v := 1) dX11_encode_358 rfl ?_
            refine wp_isub dX11_encode_359 ?_
            refine fp_wp_h (h' := r_hp h0 m (r_enc3 q8)) rfl ?_
            rw [show (r_si (r_si (r_sa q8 22 (q8.1 28) (q8.1 41 - q8.2.1 21 (q8.1 28))) 28 ((r_sa q8 22 (q8.1 28) (q8.1 41 - q8.2.1 21 (q8.1 28))).1 28 + 1)) 2 0).1 28 = q8.1 28 + 1 from rfl, nI_pred]
            refine wr_iald dX11_encode_360 ⟨by decide, rfl⟩ rfl hsec8 (by decide) ?_
            refine wp_iret dX11_encode_361 rfl rfl ?_
            rw [k28]
            exact hQ7
          · rw [k44] at c_291
            have hlt : k < p1.1 44 := by
              rcases Nat.lt_or_ge k (p1.1 44) with q | q
              · exact q
              · exact absurd (nI_le q (by omega)) c_291
            refine wp_aload_n dX11_encode_294 rfl ?_
            refine wp_iconst (v := 3) dX11_encode_295 rfl ?_
            refine wp_aload_n dX11_encode_296 rfl ?_
            refine wr_geta 45 25 dX11_encode_297 fl_X11_88 ⟨by decide, rfl⟩ ?_
            refine wp_iload dX11_encode_300 rfl ?_
            refine wr_iald dX11_encode_302 ⟨by decide, rfl⟩ rfl (by show k < 400; omega) (by decide) ?_
            rw [k25]
            refine wp_callV (As := [.int (nI 3), .int (nI (p1.2.1 25 k))]) (rest := []) dX11_encode_303 me_X11_lay cw_X11_116 rfl ⟨(Nat.le_of_ble_eq_true rfl), (Nat.le_of_ble_eq_true rfl)⟩ rfl rfl rfl (Nat.le_of_ble_eq_true rfl) r_at_m (ct_lay (by decide) (by show (r_lays q7 3 (r_lines p1 k)).1 41 < 60000; omega)) (fun r h1 q => ?_)
            obtain ⟨rfl, rfl⟩ := q
            refine wp_iinc dX11_encode_306 rfl rfl ?_
            refine wp_goto (tgt := 285) dX11_encode_309 rfl ?_
            rw [show nI k + Int32.ofInt 1 = nI (k + 1) from nI_1 k]
            have := ih (k + 1) (by omega) (by omega)
            rw [r_lines_s, r_lays_app] at this
            exact this
      exact loop (p1.1 44 + 1) 0 (by omega) (by omega)
    -- behind the first number
    have second : ∀ c : Nat, c < 2 ^ 29 → c = (if r = 0 then 0 else r % (2 * (p1.1 0 / 32)) + 1) → fp_wp G rm_X11_encode M_X11_encode 242 [some (.ref m), some (.int (nI s)), some (.int o2), some (.int (nI base)), some (.int (nI r)), none] [.int (nI c), .int (nI 8), .int (nI 0), .int (nI 3), .ref m] (r_hp h0 m q5) Q := by
      intro c hc30 hcc
      rw [← hcc] at hfl hQ
      rw [List.length_append] at hfl
      refine wp_callV (As := [.int (nI 3), .int (nI 0), .int (nI 8), .int (nI c)]) (rest := []) dX11_encode_242 me_X11_number cw_X11_120 rfl ⟨(Nat.le_of_ble_eq_true rfl), (Nat.le_of_ble_eq_true rfl)⟩ rfl rfl rfl (Nat.le_of_ble_eq_true rfl) r_at_m (ct_number (by decide) (by decide) (fun x _ => by simp) (by omega) (by show q5.1 41 + _ ≤ 60000; omega)) (fun r1 h1 q => ?_)
      obtain ⟨rfl, rfl⟩ := q
      have w41 : (r_lays q5 3 (nb 0 8 c)).1 41 = p1.1 41 + (nb 0 8 c).length := by rw [← z41]; exact r_lays_c 3 _ _
      have w28 : (r_lays q5 3 (nb 0 8 c)).1 28 = p1.1 28 := by rw [r_lays_k (by decide), z1]
      have w44 : (r_lays q5 3 (nb 0 8 c)).1 44 = p1.1 44 := by rw [r_lays_k (by decide), z1]
      have w25 : (r_lays q5 3 (nb 0 8 c)).2.1 25 = p1.2.1 25 := by rw [r_lays_a (by decide), z25]
      have w21 : (r_lays q5 3 (nb 0 8 c)).2.1 21 (p1.1 28) = p1.1 41 := by rw [r_lays_a (by decide), z21]
      rw [List.append_assoc, r_lays_app, r_lays_app] at hQ
      generalize r_lays q5 3 (nb 0 8 c) = q6 at w41 w28 w44 w25 w21 hQ ⊢
      refine wp_iload_n dX11_encode_245 rfl ?_
      refine wp_iload dX11_encode_246 rfl ?_
      refine wp_icmp_lt (tgt := 266) dX11_encode_248 rfl (fun c_248 => ?_) (fun c_248 => ?_)
      · have hlt : base < r := (nI_ltI (by omega) (by omega)).mp c_248
        rw [if_neg (by omega)] at hfl hQ
        refine wp_aload_n dX11_encode_266 rfl ?_
        refine wp_iconst (v := 3) dX11_encode_267 rfl ?_
        refine wp_sipush (v := 128) dX11_encode_268 rfl ?_
        refine wp_bipush (v := 7) dX11_encode_271 rfl ?_
        refine wp_iload dX11_encode_273 rfl ?_
        refine wp_iload_n dX11_encode_275 rfl ?_
        refine wp_isub dX11_encode_276 ?_
        refine wp_iconst (v := 1) dX11_encode_277 rfl ?_
        refine wp_isub dX11_encode_278 ?_
        rw [pk_sub (show base ≤ r by omega), nI_sub1 (by omega)]
        refine wp_callV (As := [.int (nI 3), .int (nI 128), .int (nI 7), .int (nI (r - base - 1))]) (rest := []) dX11_encode_279 me_X11_number cw_X11_120 rfl ⟨(Nat.le_of_ble_eq_true rfl), (Nat.le_of_ble_eq_true rfl)⟩ rfl rfl rfl (Nat.le_of_ble_eq_true rfl) r_at_m (ct_number (by decide) (by decide) (by decide) (by omega) (by show q6.1 41 + _ ≤ 60000; omega)) (fun r1 h1 q => ?_)
        obtain ⟨rfl, rfl⟩ := q
        have v41 : (r_lays q6 3 (nb 128 7 (r - base - 1))).1 41 = q6.1 41 + (nb 128 7 (r - base - 1)).length := r_lays_c 3 _ _
        exact lines _ (by rw [r_lays_k (by decide), w28]) (by rw [r_lays_k (by decide), w44]) (by rw [r_lays_a (by decide), w25]) (by rw [r_lays_a (by decide), w21]) (by omega) (by omega) hQ
      · have hge : r ≤ base := by
          rcases Nat.lt_or_ge base r with q | q
          · exact absurd (nI_lt q (by omega)) c_248
          · exact q
        rw [if_pos hge] at hfl hQ
        refine wp_aload_n dX11_encode_251 rfl ?_
        refine wp_iconst (v := 3) dX11_encode_252 rfl ?_
        refine wp_iconst (v := 0) dX11_encode_253 rfl ?_
        refine wp_bipush (v := 7) dX11_encode_254 rfl ?_
        refine wp_iload_n dX11_encode_256 rfl ?_
        refine wp_iload dX11_encode_257 rfl ?_
        refine wp_isub dX11_encode_259 ?_
        rw [pk_sub hge]
        refine wp_callV (As := [.int (nI 3), .int (nI 0), .int (nI 7), .int (nI (base - r))]) (rest := []) dX11_encode_260 me_X11_number cw_X11_120 rfl ⟨(Nat.le_of_ble_eq_true rfl), (Nat.le_of_ble_eq_true rfl)⟩ rfl rfl rfl (Nat.le_of_ble_eq_true rfl) r_at_m (ct_number (by decide) (by decide) (by decide) (by omega) (by show q6.1 41 + _ ≤ 60000; omega)) (fun r1 h1 q => ?_)
        obtain ⟨rfl, rfl⟩ := q
        refine wp_goto (tgt := 282) dX11_encode_263 rfl ?_
        have v41 : (r_lays q6 3 (nb 0 7 (base - r))).1 41 = q6.1 41 + (nb 0 7 (base - r)).length := r_lays_c 3 _ _
        exact lines _ (by rw [r_lays_k (by decide), w28]) (by rw [r_lays_k (by decide), w44]) (by rw [r_lays_a (by decide), w25]) (by rw [r_lays_a (by decide), w21]) (by omega) (by omega) hQ
    refine wp_aload_n dX11_encode_214 rfl ?_
    refine wp_iconst (v := 3) dX11_encode_215 rfl ?_
    refine wp_iconst (v := 0) dX11_encode_216 rfl ?_
    refine wp_bipush (v := 8) dX11_encode_217 rfl ?_
    refine wp_iload dX11_encode_219 rfl ?_
    refine wp_if_ne (tgt := 228) dX11_encode_221 rfl (fun c_221 => ?_) (fun c_221 => ?_)
    · have hr0 : r ≠ 0 := fun e => c_221 (by rw [e]; rfl)
      have hcp := hcap hr0
      have hd0 : 0 < p1.1 0 / 32 := Nat.div_pos hcp (by decide)
      have hd1 : p1.1 0 / 32 ≤ 12 := by omega
      have e1 : (2 : Int32) * (nI (q5.1 0) / 32) = nI (2 * (p1.1 0 / 32)) := by
        rw [z1, show nI (p1.1 0) / 32 = nI (p1.1 0 / 32) from pk_div (d := 32) (by omega) (by decide) (by decide)]
        exact pk_mul 2 _
      refine wp_iload dX11_encode_228 rfl ?_
      refine wp_iconst (v := 2) dX11_encode_230 rfl ?_
      refine wp_aload_n dX11_encode_231 rfl ?_
      refine wr_geti 0 dX11_encode_232 fl_X11_91 ⟨by decide, rfl⟩ ?_
      refine wp_bipush (v := 32) dX11_encode_235 rfl ?_
      refine wp_idiv dX11_encode_237 (by decide) ?_
      refine wp_imul dX11_encode_238 ?_
      rw [e1]
      refine wp_irem dX11_encode_239 (nI_ne0 (by omega) (by omega)) ?_
      refine wp_iconst (v := 1) dX11_encode_240 rfl ?_
      refine wp_iadd dX11_encode_241 ?_
      rw [pk_rem (by omega) (by omega) (by omega), nI_1]
      have hml : r % (2 * (p1.1 0 / 32)) < 2 * (p1.1 0 / 32) := Nat.mod_lt _ (by omega)
      exact second _ (by omega) (by rw [if_neg hr0])
    · have hr0 : r = 0 := (nI_eq (b := 0) (by omega) (by decide)).mp c_221
      refine wp_iconst (v := 0) dX11_encode_224 rfl ?_
      refine wp_goto (tgt := 242) dX11_encode_225 rfl ?_
      exact second 0 (by decide) (by rw [if_pos hr0])
  refine wp_if_le (tgt := 199) dX11_encode_192 rfl (fun c_192 => ?_) (fun c_192 => ?_)
  · have : r = 0 := by
      have := (nI_leI (b := 0) (by omega) (by decide)).mp c_192
      omega
    refine wp_iconst (v := 0) dX11_encode_199 rfl ?_
    exact key false (by simp [this])
  · have : 0 < r := by
      rcases Nat.eq_zero_or_pos r with q | q
      · exact absurd (by rw [q]; decide) c_192
      · exact q
    refine wp_iconst (v := 1) dX11_encode_195 rfl ?_
    refine wp_goto (tgt := 200) dX11_encode_196 rfl ?_
    exact key true (by simp [this])
set_option maxHeartbeats 4000000 in
theorem ct_encode {p : rs} {x : Int32} (ok : rok p) (hc : p.1 28 ≤ 200) (hcs : p.1 15 ≤ p.1 13) (hJ : p.1 28 < 200 → r_J (r_enc0 p) 0 0) (hf : p.1 2 ≤ 12) (hby : p.1 41 ≤ 240 * p.1 28) (hcap : ∀ s, (r_mk p s).2.1 12 (p.1 28) ≠ 0 → 32 ≤ p.1 0) :
    fp_ct G rm_X11_encode M_X11_encode [.ref m, .int x] (r_hp h0 m p) (fun r h' => ((¬ ∃ s, s < 8 ∧ x = nI s ∧ ¬ r_encNo p s) ∧ r = some (.int (-1)) ∧ h' = r_hp h0 m p) ∨ ∃ s, s < 8 ∧ x = nI s ∧ ¬ r_encNo p s ∧ r = some (.int (nI ((r_enc p s).2.1 22 (p.1 28)))) ∧ h' = r_hp h0 m (r_enc p s)) := by
  have o13 := ok.1 13
  have o15 := ok.1 15
  have o1 := ok.1 1
  refine fp_meth pn_X11 (Nat.le_of_ble_eq_true rfl) rfl ?_
  have no : ∀ (L2 : List (Option Value)), (¬ ∃ s, s < 8 ∧ x = nI s ∧ ¬ r_encNo p s) → fp_wp G rm_X11_encode M_X11_encode 55 L2 [] (r_hp h0 m p) (fun r h' => ((¬ ∃ s, s < 8 ∧ x = nI s ∧ ¬ r_encNo p s) ∧ r = some (.int (-1)) ∧ h' = r_hp h0 m p) ∨ ∃ s, s < 8 ∧ x = nI s ∧ ¬ r_encNo p s ∧ r = some (.int (nI ((r_enc p s).2.1 22 (p.1 28)))) ∧ h' = r_hp h0 m (r_enc p s)) := by
    intro L2 hn
    refine wp_iconst (v := (-1)) dX11_encode_55 rfl ?_
    refine wp_iret dX11_encode_56 rfl rfl ?_
    exact Or.inl ⟨hn, rfl, rfl⟩
  refine wp_eqL (L' := [some (.ref m), some (.int x), none, none, none, none]) rfl ?_
  refine wp_iload_n dX11_encode_0 rfl ?_
  refine wp_if_lt (tgt := 55) dX11_encode_1 rfl (fun c_1 => ?_) (fun c_1 => ?_)
  · refine no _ ?_
    rintro ⟨s, hs, rfl, -⟩
    exact nI_pos (by omega) c_1
  · refine wp_iload_n dX11_encode_4 rfl ?_
    refine wp_bipush (v := 8) dX11_encode_5 rfl ?_
    refine wp_icmp_ge (tgt := 55) dX11_encode_7 rfl (fun c_7 => ?_) (fun c_7 => ?_)
    · refine no _ ?_
      rintro ⟨s, hs, rfl, -⟩
      have := (nI_leI (a := 8) (by decide) (by omega)).mp c_7
      omega
    · obtain ⟨s, hs, rfl⟩ : ∃ s : Nat, s < 8 ∧ x = nI s := by
        obtain ⟨j, hj, rfl⟩ := nI_of c_1
        refine ⟨j, ?_, rfl⟩
        rcases Nat.lt_or_ge j 8 with q | q
        · exact q
        · exact absurd (nI_le (a := 8) q hj) c_7
      have uni : r_encNo p s → ¬ ∃ s', s' < 8 ∧ nI s = nI s' ∧ ¬ r_encNo p s' := by
        rintro hn ⟨s', h1, h2, h3⟩
        have : s = s' := (nI_eq (by omega) (by omega)).mp h2
        subst this
        exact h3 hn
      have h24 := ok.2.1 24 s
      refine wp_aload_n dX11_encode_10 rfl ?_
      refine wr_geta 43 24 dX11_encode_11 fl_X11_85 ⟨by decide, rfl⟩ ?_
      refine wp_iload_n dX11_encode_14 rfl ?_
      refine wr_zald dX11_encode_15 ⟨by decide, rfl⟩ rfl (by show s < 8; omega) (by decide) ?_
      refine wp_if_ne (tgt := 55) dX11_encode_16 rfl (fun c_16 => ?_) (fun c_16 => ?_)
      · exact no _ (uni (Or.inl (fun e => c_16 (by rw [e]; rfl))))
      · have h24z : p.2.1 24 s = 0 := (nI_eq (b := 0) (by omega) (by decide)).mp c_16
        have hly : r_lying p s 0 ≤ 200 := Nat.le_trans (cnt_le _ _) hc
        refine wp_aload_n dX11_encode_19 rfl ?_
        refine wp_iload_n dX11_encode_20 rfl ?_
        refine wp_iconst (v := 0) dX11_encode_21 rfl ?_
        refine wp_callV (As := [.int (nI s), .int (nI 0)]) (rest := []) dX11_encode_22 me_X11_lying cw_X11_192 rfl ⟨(Nat.le_of_ble_eq_true rfl), (Nat.le_of_ble_eq_true rfl)⟩ rfl rfl rfl (Nat.le_of_ble_eq_true rfl) r_at_m (ct_lying ok (by omega) (by decide) hc) (fun r h1 q => ?_)
        obtain ⟨rfl, rfl⟩ := q
        refine wp_bipush (v := 8) dX11_encode_25 rfl ?_
        refine wp_icmp_eq (tgt := 55) dX11_encode_27 rfl (fun c_27 => ?_) (fun c_27 => ?_)
        · exact no _ (uni (Or.inr (Or.inl ((nI_eq (b := 8) (by omega) (by decide)).mp c_27))))
        · have hl8 : r_lying p s 0 ≠ 8 := fun e => c_27 (by rw [e]; rfl)
          refine wp_aload_n dX11_encode_30 rfl ?_
          refine wr_geti 28 dX11_encode_31 fl_X11_143 ⟨by decide, rfl⟩ ?_
          refine wp_sipush (v := 200) dX11_encode_34 rfl ?_
          refine wp_icmp_eq (tgt := 55) dX11_encode_37 rfl (fun c_37 => ?_) (fun c_37 => ?_)
          · exact no _ (uni (Or.inr (Or.inr (Or.inl ((nI_eq (b := 200) (by omega) (by decide)).mp c_37)))))
          · have h200 : p.1 28 ≠ 200 := fun e => c_37 (by rw [e]; rfl)
            refine wp_aload_n dX11_encode_40 rfl ?_
            refine wr_geti 13 dX11_encode_41 fl_X11_104 ⟨by decide, rfl⟩ ?_
            refine wp_aload_n dX11_encode_44 rfl ?_
            refine wr_geti 15 dX11_encode_45 fl_X11_196 ⟨by decide, rfl⟩ ?_
            refine wp_isub dX11_encode_48 ?_
            rw [pk_sub hcs]
            refine wp_sipush (v := 5000) dX11_encode_49 rfl ?_
            refine wp_icmp_le (tgt := 57) dX11_encode_52 rfl (fun c_52 => ?_) (fun c_52 => ?_)
            · have h5000 : p.1 13 - p.1 15 ≤ 5000 := (nI_leI (b := 5000) (by omega) (by decide)).mp c_52
              have hgo : ¬ r_encNo p s := by
                rintro (e | e | e | e)
                · exact e h24z
                · exact hl8 e
                · exact h200 e
                · omega
              have hsec : p.1 28 < 200 := by omega
              have hJ0 := hJ hsec
              have hbase : p.1 6 < 2 ^ 28 := by
                obtain ⟨_, _, _, _, _, h6, _⟩ := hJ0
                have h6' : p.1 6 ≤ 12 * p.1 28 + 0 := h6
                omega
              have good : ∀ h', h' = r_hp h0 m (r_enc p s) → (fun r h' => ((¬ ∃ s', s' < 8 ∧ nI s = nI s' ∧ ¬ r_encNo p s') ∧ r = some (Value.int (-1)) ∧ h' = r_hp h0 m p) ∨ ∃ s', s' < 8 ∧ nI s = nI s' ∧ ¬ r_encNo p s' ∧ r = some (.int (nI ((r_enc p s').2.1 22 (p.1 28)))) ∧ h' = r_hp h0 m (r_enc p s')) (some (.int (nI ((r_enc p s).2.1 22 (p.1 28))))) h' := fun h' e => Or.inr ⟨s, hs, rfl, hgo, rfl, e⟩
              -- from the making on
              have main : ∀ risk : Bool, risk = r_rk1 p s → fp_wp G rm_X11_encode M_X11_encode 81 [some (.ref m), some (.int (nI s)), none, none, none, none] [.int (nI (b2n risk))] (r_hp h0 m p) (fun r h' => ((¬ ∃ s', s' < 8 ∧ nI s = nI s' ∧ ¬ r_encNo p s') ∧ r = some (Value.int (-1)) ∧ h' = r_hp h0 m p) ∨ ∃ s', s' < 8 ∧ nI s = nI s' ∧ ¬ r_encNo p s' ∧ r = some (.int (nI ((r_enc p s').2.1 22 (p.1 28)))) ∧ h' = r_hp h0 m (r_enc p s')) := by
                intro risk hrisk
                refine wp_istore_n dX11_encode_81 (Nat.le_of_ble_eq_true rfl) rfl ?_
                refine wp_aload_n dX11_encode_82 rfl ?_
                refine wr_geti 6 dX11_encode_83 fl_X11_137 ⟨by decide, rfl⟩ ?_
                refine wp_istore_n dX11_encode_86 (Nat.le_of_ble_eq_true rfl) rfl ?_
                refine wp_aload_n dX11_encode_87 rfl ?_
                refine wp_iconst (v := 0) dX11_encode_88 rfl ?_
                refine wr_puti dX11_encode_89 (fs_X11_110 _) ⟨by decide, rfl⟩ (show (0 : Int32) = nI 0 from rfl) ?_
                refine wp_aload_n dX11_encode_92 rfl ?_
                refine wr_geta 30 12 dX11_encode_93 fl_X11_49 ⟨by decide, rfl⟩ ?_
                refine wp_aload_n dX11_encode_96 rfl ?_
                refine wr_geti 28 dX11_encode_97 fl_X11_143 ⟨by decide, rfl⟩ ?_
                refine wp_iconst (v := 0) dX11_encode_100 rfl ?_
                refine wr_iast dX11_encode_101 ⟨by decide, rfl⟩ rfl hsec (by decide) (show (0 : Int32) = nI 0 from rfl) ?_
                refine wp_aload_n dX11_encode_102 rfl ?_
                refine wr_geta 38 20 dX11_encode_103 fl_X11_73 ⟨by decide, rfl⟩ ?_
                refine wp_aload_n dX11_encode_106 rfl ?_
                refine wr_geti 28 dX11_encode_107 fl_X11_143 ⟨by decide, rfl⟩ ?_
                refine wp_iconst (v := 0) dX11_encode_110 rfl ?_
                refine wr_iast dX11_encode_111 ⟨by decide, rfl⟩ rfl hsec (by decide) (show (0 : Int32) = nI 0 from rfl) ?_
                refine wp_iconst (v := 0) dX11_encode_112 rfl ?_
                refine wp_istore dX11_encode_113 (Nat.le_of_ble_eq_true rfl) rfl ?_
                have e2 : ∀ f, (r_ones (r_enc0 p) (p.1 6) risk f).1 2 = p.1 2 := fun f => r_ones_k (by decide) (by decide) (by decide) (by decide) (by decide) f
                have e28 : ∀ f, (r_ones (r_enc0 p) (p.1 6) risk f).1 28 = p.1 28 := fun f => r_ones_k (by decide) (by decide) (by decide) (by decide) (by decide) f
                have e41 : ∀ f, (r_ones (r_enc0 p) (p.1 6) risk f).1 41 = p.1 41 := fun f => r_ones_k (by decide) (by decide) (by decide) (by decide) (by decide) f
                have e0 : ∀ f, (r_ones (r_enc0 p) (p.1 6) risk f).1 0 = p.1 0 := fun f => r_ones_k (by decide) (by decide) (by decide) (by decide) (by decide) f
                have jj := fun f hf => r_ones_J (risk := risk) hJ0 hbase rfl f hf
                have hmk : r_ones (r_enc0 p) (p.1 6) risk (p.1 2) = r_mk p s := by rw [hrisk]; rfl
                have loop : ∀ n f : Nat, f ≤ p.1 2 → p.1 2 - f < n → fp_wp G rm_X11_encode M_X11_encode 115 [some (.ref m), some (.int (nI s)), some (.int (nI (b2n risk))), some (.int (nI (p.1 6))), some (.int (nI f)), none] [] (r_hp h0 m (r_ones (r_enc0 p) (p.1 6) risk f)) (fun r h' => ((¬ ∃ s', s' < 8 ∧ nI s = nI s' ∧ ¬ r_encNo p s') ∧ r = some (Value.int (-1)) ∧ h' = r_hp h0 m p) ∨ ∃ s', s' < 8 ∧ nI s = nI s' ∧ ¬ r_encNo p s' ∧ r = some (.int (nI ((r_enc p s').2.1 22 (p.1 28)))) ∧ h' = r_hp h0 m (r_enc p s')) := by
                  intro n
                  induction n with
                  | zero => intro f _ h2; omega
                  | succ n ih =>
                    intro f hff hn
                    obtain ⟨jp, l44⟩ := jj f (by omega)
                    have a2 := e2 f
                    have a28 := e28 f
                    refine wp_iload dX11_encode_115 rfl ?_
                    refine wp_aload_n dX11_encode_117 rfl ?_
                    refine wr_geti 2 dX11_encode_118 fl_X11_124 ⟨by decide, rfl⟩ ?_
                    refine wp_icmp_ge (tgt := 138) dX11_encode_121 rfl (fun c_121 => ?_) (fun c_121 => ?_)
                    · rw [a2] at c_121
                      have e : f = p.1 2 := by
                        have := (nI_leI (by omega) (by omega)).mp c_121
                        omega
                      subst e
                      have a41 := e41 (p.1 2)
                      have a0 := e0 (p.1 2)
                      have hcp := hcap s
                      have hg := good (r_hp h0 m (r_enc p s)) rfl
                      rw [show r_enc p s = r_enc3 (r_lays (r_enc2 (r_mk p s) s) 3 (r_front (r_mk p s) (p.1 6) ++ r_lines (r_mk p s) ((r_mk p s).1 44))) from rfl] at hg
                      rw [hmk] at jp l44 a28 a41 a0 ⊢
                      generalize r_mk p s = p1 at jp l44 a28 a41 a0 hcp hg ⊢
                      rw [← a28] at hcp
                      exact w_enc jp.1 hs (by omega) (by omega) (by omega) (by rw [a0]; exact hcp) (by obtain ⟨_, _, _, _, _, _, _, _, h9, _⟩ := jp; exact h9) hbase (by rw [a28]; exact hg)
                    · rw [a2] at c_121
                      have hlt : f < p.1 2 := by
                        rcases Nat.lt_or_ge f (p.1 2) with q | q
                        · exact q
                        · exact absurd (nI_le q (by omega)) c_121
                      obtain ⟨g1, g2, g3, g4, g5, g6, g7, g8, g9, g10, g11⟩ := jp
                      refine wp_aload_n dX11_encode_124 rfl ?_
                      refine wp_iload dX11_encode_125 rfl ?_
                      refine wp_iload_n dX11_encode_127 rfl ?_
                      refine wp_iload_n dX11_encode_128 rfl ?_
                      refine wp_callV (As := [.int (nI f), .int (nI (p.1 6)), .int (nI (b2n risk))]) (rest := []) dX11_encode_129 me_X11_one cw_X11_203 rfl ⟨(Nat.le_of_ble_eq_true rfl), (Nat.le_of_ble_eq_true rfl)⟩ rfl rfl rfl (Nat.le_of_ble_eq_true rfl) r_at_m (ct_one g1 (by omega) hbase g2 g3 (by omega) g5 (by omega) g7 (by omega) (by omega) (by omega) (g11 f (by omega))) (fun r h1 q => ?_)
                      obtain ⟨rfl, rfl⟩ := q
                      refine wp_iinc dX11_encode_132 rfl rfl ?_
                      refine wp_goto (tgt := 115) dX11_encode_135 rfl ?_
                      rw [show nI f + Int32.ofInt 1 = nI (f + 1) from nI_1 f]
                      exact ih (f + 1) (by omega) (by omega)
                exact loop (p.1 2 + 1) 0 (by omega) (by omega)
              refine wp_aload_n dX11_encode_57 rfl ?_
              refine wp_iload_n dX11_encode_58 rfl ?_
              refine wp_callV (As := [.int (nI s)]) (rest := []) dX11_encode_59 me_X11_isAtRisk cw_X11_149 rfl ⟨(Nat.le_of_ble_eq_true rfl), (Nat.le_of_ble_eq_true rfl)⟩ rfl rfl rfl (Nat.le_of_ble_eq_true rfl) r_at_m (ct_isAtRisk ok (by omega) hc) (fun r h1 q => ?_)
              obtain ⟨rfl, rfl⟩ := q
              have hat : r_atRisk p ≤ 8 := cnt_le _ _
              refine wp_if_ne (tgt := 76) dX11_encode_62 rfl (fun c_62 => ?_) (fun c_62 => ?_)
              · have hrk : r_risk p s = true := by
                  cases hx : r_risk p s with
                  | true => rfl
                  | false => rw [hx] at c_62; exact absurd rfl c_62
                refine wp_iconst (v := 1) dX11_encode_76 rfl ?_
                refine wp_goto (tgt := 81) dX11_encode_77 rfl ?_
                exact main true (by rw [r_rk1, hrk]; rfl)
              · have hrk : r_risk p s = false := b2n_0.mp c_62
                refine wp_aload_n dX11_encode_65 rfl ?_
                refine wp_callV (As := []) (rest := []) dX11_encode_66 me_X11_atRisk cw_X11_199 rfl ⟨(Nat.le_of_ble_eq_true rfl), (Nat.le_of_ble_eq_true rfl)⟩ rfl rfl rfl (Nat.le_of_ble_eq_true rfl) r_at_m (ct_atRisk ok hc) (fun r h1 q => ?_)
                obtain ⟨rfl, rfl⟩ := q
                refine wp_aload_n dX11_encode_69 rfl ?_
                refine wr_geti 1 dX11_encode_70 fl_X11_95 ⟨by decide, rfl⟩ ?_
                refine wp_icmp_ge (tgt := 80) dX11_encode_73 rfl (fun c_73 => ?_) (fun c_73 => ?_)
                · have : p.1 1 ≤ r_atRisk p := (nI_leI (by omega) (by omega)).mp c_73
                  refine wp_iconst (v := 0) dX11_encode_80 rfl ?_
                  exact main false (by rw [r_rk1, hrk]; simp; omega)
                · have : r_atRisk p < p.1 1 := by
                    rcases Nat.lt_or_ge (r_atRisk p) (p.1 1) with q | q
                    · exact q
                    · exact absurd (nI_le q (by omega)) c_73
                  refine wp_iconst (v := 1) dX11_encode_76 rfl ?_
                  refine wp_goto (tgt := 81) dX11_encode_77 rfl ?_
                  exact main true (by rw [r_rk1, hrk]; simp [this])
            · refine no _ (uni (Or.inr (Or.inr (Or.inr ?_))))
              rcases Nat.lt_or_ge 5000 (p.1 13 - p.1 15) with q | q
              · exact q
              · exact absurd (nI_le (b := 5000) q (by decide)) c_52
end RE
