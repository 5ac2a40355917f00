section S
variable {d o o2 p0 p1 p2 p3 p4 q0 q1 q2 q3 q4 q5 : Nat} {L S : List Value} {h : abH} {Q : Option Value → abH → Prop} {l0 l1 l2 l3 l4 l5 l6 l7 l8 l9 l10 l11 l12 l13 l14 l15 l16 l17 l18 l19 : Value} {a b x0 x1 x2 x3 x4 x5 y0 y1 y2 y3 y4 y5 : Int32} {u w u0 w0 w1 w2 w3 w4 : Int64}
-- method 138: BufferRoomModel.<init>()V
theorem dX12_init_0 : decode cX12_init 0 = .ok (.aload_n 0, 1) := by decide +kernel
theorem dX12_init_1 : decode cX12_init 1 = .ok (.invokespecial 1, 3) := by decide +kernel
theorem dX12_init_4 : decode cX12_init 4 = .ok (.aload_n 0, 1) := by decide +kernel
theorem dX12_init_5 : decode cX12_init 5 = .ok (.sipush 240, 3) := by decide +kernel
theorem dX12_init_8 : decode cX12_init 8 = .ok (.newarray .int, 2) := by decide +kernel
theorem dX12_init_10 : decode cX12_init 10 = .ok (.putfield 7, 3) := by decide +kernel
theorem dX12_init_13 : decode cX12_init 13 = .ok (.aload_n 0, 1) := by decide +kernel
theorem dX12_init_14 : decode cX12_init 14 = .ok (.iconst 4, 1) := by decide +kernel
theorem dX12_init_15 : decode cX12_init 15 = .ok (.newarray .int, 2) := by decide +kernel
theorem dX12_init_17 : decode cX12_init 17 = .ok (.dup, 1) := by decide +kernel
theorem dX12_init_18 : decode cX12_init 18 = .ok (.iconst 0, 1) := by decide +kernel
theorem dX12_init_19 : decode cX12_init 19 = .ok (.iconst 1, 1) := by decide +kernel
theorem dX12_init_20 : decode cX12_init 20 = .ok (.iastore, 1) := by decide +kernel
theorem dX12_init_21 : decode cX12_init 21 = .ok (.dup, 1) := by decide +kernel
theorem dX12_init_22 : decode cX12_init 22 = .ok (.iconst 1, 1) := by decide +kernel
theorem dX12_init_23 : decode cX12_init 23 = .ok (.iconst 1, 1) := by decide +kernel
theorem dX12_init_24 : decode cX12_init 24 = .ok (.iastore, 1) := by decide +kernel
theorem dX12_init_25 : decode cX12_init 25 = .ok (.dup, 1) := by decide +kernel
theorem dX12_init_26 : decode cX12_init 26 = .ok (.iconst 2, 1) := by decide +kernel
theorem dX12_init_27 : decode cX12_init 27 = .ok (.iconst 1, 1) := by decide +kernel
theorem dX12_init_28 : decode cX12_init 28 = .ok (.iastore, 1) := by decide +kernel
theorem dX12_init_29 : decode cX12_init 29 = .ok (.dup, 1) := by decide +kernel
theorem dX12_init_30 : decode cX12_init 30 = .ok (.iconst 3, 1) := by decide +kernel
theorem dX12_init_31 : decode cX12_init 31 = .ok (.iconst 1, 1) := by decide +kernel
theorem dX12_init_32 : decode cX12_init 32 = .ok (.iastore, 1) := by decide +kernel
theorem dX12_init_33 : decode cX12_init 33 = .ok (.putfield 13, 3) := by decide +kernel
theorem dX12_init_36 : decode cX12_init 36 = .ok (.aload_n 0, 1) := by decide +kernel
theorem dX12_init_37 : decode cX12_init 37 = .ok (.bipush 12, 2) := by decide +kernel
theorem dX12_init_39 : decode cX12_init 39 = .ok (.newarray .boolean, 2) := by decide +kernel
theorem dX12_init_41 : decode cX12_init 41 = .ok (.putfield 16, 3) := by decide +kernel
theorem dX12_init_44 : decode cX12_init 44 = .ok (.aload_n 0, 1) := by decide +kernel
theorem dX12_init_45 : decode cX12_init 45 = .ok (.bipush 12, 2) := by decide +kernel
theorem dX12_init_47 : decode cX12_init 47 = .ok (.newarray .int, 2) := by decide +kernel
theorem dX12_init_49 : decode cX12_init 49 = .ok (.putfield 20, 3) := by decide +kernel
theorem dX12_init_52 : decode cX12_init 52 = .ok (.aload_n 0, 1) := by decide +kernel
theorem dX12_init_53 : decode cX12_init 53 = .ok (.bipush 48, 2) := by decide +kernel
theorem dX12_init_55 : decode cX12_init 55 = .ok (.newarray .int, 2) := by decide +kernel
theorem dX12_init_57 : decode cX12_init 57 = .ok (.putfield 23, 3) := by decide +kernel
theorem dX12_init_60 : decode cX12_init 60 = .ok (.aload_n 0, 1) := by decide +kernel
theorem dX12_init_61 : decode cX12_init 61 = .ok (.bipush 48, 2) := by decide +kernel
theorem dX12_init_63 : decode cX12_init 63 = .ok (.newarray .int, 2) := by decide +kernel
theorem dX12_init_65 : decode cX12_init 65 = .ok (.putfield 26, 3) := by decide +kernel
theorem dX12_init_68 : decode cX12_init 68 = .ok (.aload_n 0, 1) := by decide +kernel
theorem dX12_init_69 : decode cX12_init 69 = .ok (.bipush 12, 2) := by decide +kernel
theorem dX12_init_71 : decode cX12_init 71 = .ok (.newarray .boolean, 2) := by decide +kernel
theorem dX12_init_73 : decode cX12_init 73 = .ok (.putfield 29, 3) := by decide +kernel
theorem dX12_init_76 : decode cX12_init 76 = .ok (.aload_n 0, 1) := by decide +kernel
theorem dX12_init_77 : decode cX12_init 77 = .ok (.bipush 10, 2) := by decide +kernel
theorem dX12_init_79 : decode cX12_init 79 = .ok (.newarray .int, 2) := by decide +kernel
theorem dX12_init_81 : decode cX12_init 81 = .ok (.putfield 32, 3) := by decide +kernel
theorem dX12_init_84 : decode cX12_init 84 = .ok (.aload_n 0, 1) := by decide +kernel
theorem dX12_init_85 : decode cX12_init 85 = .ok (.bipush 10, 2) := by decide +kernel
theorem dX12_init_87 : decode cX12_init 87 = .ok (.newarray .int, 2) := by decide +kernel
theorem dX12_init_89 : decode cX12_init 89 = .ok (.putfield 35, 3) := by decide +kernel
theorem dX12_init_92 : decode cX12_init 92 = .ok (.aload_n 0, 1) := by decide +kernel
theorem dX12_init_93 : decode cX12_init 93 = .ok (.bipush 10, 2) := by decide +kernel
theorem dX12_init_95 : decode cX12_init 95 = .ok (.newarray .int, 2) := by decide +kernel
theorem dX12_init_97 : decode cX12_init 97 = .ok (.putfield 38, 3) := by decide +kernel
theorem dX12_init_100 : decode cX12_init 100 = .ok (.aload_n 0, 1) := by decide +kernel
theorem dX12_init_101 : decode cX12_init 101 = .ok (.bipush 10, 2) := by decide +kernel
theorem dX12_init_103 : decode cX12_init 103 = .ok (.newarray .int, 2) := by decide +kernel
theorem dX12_init_105 : decode cX12_init 105 = .ok (.putfield 41, 3) := by decide +kernel
theorem dX12_init_108 : decode cX12_init 108 = .ok (.aload_n 0, 1) := by decide +kernel
theorem dX12_init_109 : decode cX12_init 109 = .ok (.bipush 40, 2) := by decide +kernel
theorem dX12_init_111 : decode cX12_init 111 = .ok (.newarray .int, 2) := by decide +kernel
theorem dX12_init_113 : decode cX12_init 113 = .ok (.putfield 44, 3) := by decide +kernel
theorem dX12_init_116 : decode cX12_init 116 = .ok (.aload_n 0, 1) := by decide +kernel
theorem dX12_init_117 : decode cX12_init 117 = .ok (.bipush 12, 2) := by decide +kernel
theorem dX12_init_119 : decode cX12_init 119 = .ok (.newarray .boolean, 2) := by decide +kernel
theorem dX12_init_121 : decode cX12_init 121 = .ok (.putfield 47, 3) := by decide +kernel
theorem dX12_init_124 : decode cX12_init 124 = .ok (.aload_n 0, 1) := by decide +kernel
theorem dX12_init_125 : decode cX12_init 125 = .ok (.bipush 12, 2) := by decide +kernel
theorem dX12_init_127 : decode cX12_init 127 = .ok (.newarray .int, 2) := by decide +kernel
theorem dX12_init_129 : decode cX12_init 129 = .ok (.putfield 50, 3) := by decide +kernel
theorem dX12_init_132 : decode cX12_init 132 = .ok (.aload_n 0, 1) := by decide +kernel
theorem dX12_init_133 : decode cX12_init 133 = .ok (.bipush 60, 2) := by decide +kernel
theorem dX12_init_135 : decode cX12_init 135 = .ok (.newarray .int, 2) := by decide +kernel
theorem dX12_init_137 : decode cX12_init 137 = .ok (.putfield 53, 3) := by decide +kernel
theorem dX12_init_140 : decode cX12_init 140 = .ok (.aload_n 0, 1) := by decide +kernel
theorem dX12_init_141 : decode cX12_init 141 = .ok (.bipush 60, 2) := by decide +kernel
theorem dX12_init_143 : decode cX12_init 143 = .ok (.newarray .int, 2) := by decide +kernel
theorem dX12_init_145 : decode cX12_init 145 = .ok (.putfield 56, 3) := by decide +kernel
theorem dX12_init_148 : decode cX12_init 148 = .ok (.aload_n 0, 1) := by decide +kernel
theorem dX12_init_149 : decode cX12_init 149 = .ok (.bipush 12, 2) := by decide +kernel
theorem dX12_init_151 : decode cX12_init 151 = .ok (.newarray .boolean, 2) := by decide +kernel
theorem dX12_init_153 : decode cX12_init 153 = .ok (.putfield 59, 3) := by decide +kernel
theorem dX12_init_156 : decode cX12_init 156 = .ok (.aload_n 0, 1) := by decide +kernel
theorem dX12_init_157 : decode cX12_init 157 = .ok (.bipush 10, 2) := by decide +kernel
theorem dX12_init_159 : decode cX12_init 159 = .ok (.newarray .int, 2) := by decide +kernel
theorem dX12_init_161 : decode cX12_init 161 = .ok (.putfield 62, 3) := by decide +kernel
theorem dX12_init_164 : decode cX12_init 164 = .ok (.aload_n 0, 1) := by decide +kernel
theorem dX12_init_165 : decode cX12_init 165 = .ok (.bipush 10, 2) := by decide +kernel
theorem dX12_init_167 : decode cX12_init 167 = .ok (.newarray .int, 2) := by decide +kernel
theorem dX12_init_169 : decode cX12_init 169 = .ok (.putfield 65, 3) := by decide +kernel
theorem dX12_init_172 : decode cX12_init 172 = .ok (.aload_n 0, 1) := by decide +kernel
theorem dX12_init_173 : decode cX12_init 173 = .ok (.bipush 10, 2) := by decide +kernel
theorem dX12_init_175 : decode cX12_init 175 = .ok (.newarray .int, 2) := by decide +kernel
theorem dX12_init_177 : decode cX12_init 177 = .ok (.putfield 68, 3) := by decide +kernel
theorem dX12_init_180 : decode cX12_init 180 = .ok (.aload_n 0, 1) := by decide +kernel
theorem dX12_init_181 : decode cX12_init 181 = .ok (.bipush 10, 2) := by decide +kernel
theorem dX12_init_183 : decode cX12_init 183 = .ok (.newarray .int, 2) := by decide +kernel
theorem dX12_init_185 : decode cX12_init 185 = .ok (.putfield 71, 3) := by decide +kernel
theorem dX12_init_188 : decode cX12_init 188 = .ok (.aload_n 0, 1) := by decide +kernel
theorem dX12_init_189 : decode cX12_init 189 = .ok (.bipush 40, 2) := by decide +kernel
theorem dX12_init_191 : decode cX12_init 191 = .ok (.newarray .int, 2) := by decide +kernel
theorem dX12_init_193 : decode cX12_init 193 = .ok (.putfield 74, 3) := by decide +kernel
theorem dX12_init_196 : decode cX12_init 196 = .ok (.aload_n 0, 1) := by decide +kernel
theorem dX12_init_197 : decode cX12_init 197 = .ok (.bipush 10, 2) := by decide +kernel
theorem dX12_init_199 : decode cX12_init 199 = .ok (.newarray .int, 2) := by decide +kernel
theorem dX12_init_201 : decode cX12_init 201 = .ok (.putfield 77, 3) := by decide +kernel
theorem dX12_init_204 : decode cX12_init 204 = .ok (.aload_n 0, 1) := by decide +kernel
theorem dX12_init_205 : decode cX12_init 205 = .ok (.bipush 12, 2) := by decide +kernel
theorem dX12_init_207 : decode cX12_init 207 = .ok (.newarray .int, 2) := by decide +kernel
theorem dX12_init_209 : decode cX12_init 209 = .ok (.dup, 1) := by decide +kernel
theorem dX12_init_210 : decode cX12_init 210 = .ok (.iconst 0, 1) := by decide +kernel
theorem dX12_init_211 : decode cX12_init 211 = .ok (.iconst (-1), 1) := by decide +kernel
theorem dX12_init_212 : decode cX12_init 212 = .ok (.iastore, 1) := by decide +kernel
theorem dX12_init_213 : decode cX12_init 213 = .ok (.dup, 1) := by decide +kernel
theorem dX12_init_214 : decode cX12_init 214 = .ok (.iconst 1, 1) := by decide +kernel
theorem dX12_init_215 : decode cX12_init 215 = .ok (.iconst (-1), 1) := by decide +kernel
theorem dX12_init_216 : decode cX12_init 216 = .ok (.iastore, 1) := by decide +kernel
theorem dX12_init_217 : decode cX12_init 217 = .ok (.dup, 1) := by decide +kernel
theorem dX12_init_218 : decode cX12_init 218 = .ok (.iconst 2, 1) := by decide +kernel
theorem dX12_init_219 : decode cX12_init 219 = .ok (.iconst (-1), 1) := by decide +kernel
theorem dX12_init_220 : decode cX12_init 220 = .ok (.iastore, 1) := by decide +kernel
theorem dX12_init_221 : decode cX12_init 221 = .ok (.dup, 1) := by decide +kernel
theorem dX12_init_222 : decode cX12_init 222 = .ok (.iconst 3, 1) := by decide +kernel
theorem dX12_init_223 : decode cX12_init 223 = .ok (.iconst (-1), 1) := by decide +kernel
theorem dX12_init_224 : decode cX12_init 224 = .ok (.iastore, 1) := by decide +kernel
theorem dX12_init_225 : decode cX12_init 225 = .ok (.dup, 1) := by decide +kernel
theorem dX12_init_226 : decode cX12_init 226 = .ok (.iconst 4, 1) := by decide +kernel
theorem dX12_init_227 : decode cX12_init 227 = .ok (.iconst (-1), 1) := by decide +kernel
theorem dX12_init_228 : decode cX12_init 228 = .ok (.iastore, 1) := by decide +kernel
theorem dX12_init_229 : decode cX12_init 229 = .ok (.dup, 1) := by decide +kernel
theorem dX12_init_230 : decode cX12_init 230 = .ok (.iconst 5, 1) := by decide +kernel
theorem dX12_init_231 : decode cX12_init 231 = .ok (.iconst (-1), 1) := by decide +kernel
theorem dX12_init_232 : decode cX12_init 232 = .ok (.iastore, 1) := by decide +kernel
theorem dX12_init_233 : decode cX12_init 233 = .ok (.dup, 1) := by decide +kernel
theorem dX12_init_234 : decode cX12_init 234 = .ok (.bipush 6, 2) := by decide +kernel
theorem dX12_init_236 : decode cX12_init 236 = .ok (.iconst (-1), 1) := by decide +kernel
theorem dX12_init_237 : decode cX12_init 237 = .ok (.iastore, 1) := by decide +kernel
theorem dX12_init_238 : decode cX12_init 238 = .ok (.dup, 1) := by decide +kernel
theorem dX12_init_239 : decode cX12_init 239 = .ok (.bipush 7, 2) := by decide +kernel
theorem dX12_init_241 : decode cX12_init 241 = .ok (.iconst (-1), 1) := by decide +kernel
theorem dX12_init_242 : decode cX12_init 242 = .ok (.iastore, 1) := by decide +kernel
theorem dX12_init_243 : decode cX12_init 243 = .ok (.dup, 1) := by decide +kernel
theorem dX12_init_244 : decode cX12_init 244 = .ok (.bipush 8, 2) := by decide +kernel
theorem dX12_init_246 : decode cX12_init 246 = .ok (.iconst (-1), 1) := by decide +kernel
theorem dX12_init_247 : decode cX12_init 247 = .ok (.iastore, 1) := by decide +kernel
theorem dX12_init_248 : decode cX12_init 248 = .ok (.dup, 1) := by decide +kernel
theorem dX12_init_249 : decode cX12_init 249 = .ok (.bipush 9, 2) := by decide +kernel
theorem dX12_init_251 : decode cX12_init 251 = .ok (.iconst (-1), 1) := by decide +kernel
theorem dX12_init_252 : decode cX12_init 252 = .ok (.iastore, 1) := by decide +kernel
theorem dX12_init_253 : decode cX12_init 253 = .ok (.dup, 1) := by decide +kernel
theorem dX12_init_254 : decode cX12_init 254 = .ok (.bipush 10, 2) := by decide +kernel
theorem dX12_init_256 : decode cX12_init 256 = .ok (.iconst (-1), 1) := by decide +kernel
theorem dX12_init_257 : decode cX12_init 257 = .ok (.iastore, 1) := by decide +kernel
theorem dX12_init_258 : decode cX12_init 258 = .ok (.dup, 1) := by decide +kernel
theorem dX12_init_259 : decode cX12_init 259 = .ok (.bipush 11, 2) := by decide +kernel
theorem dX12_init_261 : decode cX12_init 261 = .ok (.iconst (-1), 1) := by decide +kernel
theorem dX12_init_262 : decode cX12_init 262 = .ok (.iastore, 1) := by decide +kernel
theorem dX12_init_263 : decode cX12_init 263 = .ok (.putfield 80, 3) := by decide +kernel
theorem dX12_init_266 : decode cX12_init 266 = .ok (.aload_n 0, 1) := by decide +kernel
theorem dX12_init_267 : decode cX12_init 267 = .ok (.bipush 6, 2) := by decide +kernel
theorem dX12_init_269 : decode cX12_init 269 = .ok (.newarray .int, 2) := by decide +kernel
theorem dX12_init_271 : decode cX12_init 271 = .ok (.putfield 83, 3) := by decide +kernel
theorem dX12_init_274 : decode cX12_init 274 = .ok (.aload_n 0, 1) := by decide +kernel
theorem dX12_init_275 : decode cX12_init 275 = .ok (.bipush 12, 2) := by decide +kernel
theorem dX12_init_277 : decode cX12_init 277 = .ok (.newarray .int, 2) := by decide +kernel
theorem dX12_init_279 : decode cX12_init 279 = .ok (.dup, 1) := by decide +kernel
theorem dX12_init_280 : decode cX12_init 280 = .ok (.iconst 0, 1) := by decide +kernel
theorem dX12_init_281 : decode cX12_init 281 = .ok (.iconst (-1), 1) := by decide +kernel
theorem dX12_init_282 : decode cX12_init 282 = .ok (.iastore, 1) := by decide +kernel
theorem dX12_init_283 : decode cX12_init 283 = .ok (.dup, 1) := by decide +kernel
theorem dX12_init_284 : decode cX12_init 284 = .ok (.iconst 1, 1) := by decide +kernel
theorem dX12_init_285 : decode cX12_init 285 = .ok (.iconst (-1), 1) := by decide +kernel
theorem dX12_init_286 : decode cX12_init 286 = .ok (.iastore, 1) := by decide +kernel
theorem dX12_init_287 : decode cX12_init 287 = .ok (.dup, 1) := by decide +kernel
theorem dX12_init_288 : decode cX12_init 288 = .ok (.iconst 2, 1) := by decide +kernel
theorem dX12_init_289 : decode cX12_init 289 = .ok (.iconst (-1), 1) := by decide +kernel
theorem dX12_init_290 : decode cX12_init 290 = .ok (.iastore, 1) := by decide +kernel
theorem dX12_init_291 : decode cX12_init 291 = .ok (.dup, 1) := by decide +kernel
theorem dX12_init_292 : decode cX12_init 292 = .ok (.iconst 3, 1) := by decide +kernel
theorem dX12_init_293 : decode cX12_init 293 = .ok (.iconst (-1), 1) := by decide +kernel
theorem dX12_init_294 : decode cX12_init 294 = .ok (.iastore, 1) := by decide +kernel
theorem dX12_init_295 : decode cX12_init 295 = .ok (.dup, 1) := by decide +kernel
theorem dX12_init_296 : decode cX12_init 296 = .ok (.iconst 4, 1) := by decide +kernel
theorem dX12_init_297 : decode cX12_init 297 = .ok (.iconst (-1), 1) := by decide +kernel
theorem dX12_init_298 : decode cX12_init 298 = .ok (.iastore, 1) := by decide +kernel
theorem dX12_init_299 : decode cX12_init 299 = .ok (.dup, 1) := by decide +kernel
theorem dX12_init_300 : decode cX12_init 300 = .ok (.iconst 5, 1) := by decide +kernel
theorem dX12_init_301 : decode cX12_init 301 = .ok (.iconst (-1), 1) := by decide +kernel
theorem dX12_init_302 : decode cX12_init 302 = .ok (.iastore, 1) := by decide +kernel
theorem dX12_init_303 : decode cX12_init 303 = .ok (.dup, 1) := by decide +kernel
theorem dX12_init_304 : decode cX12_init 304 = .ok (.bipush 6, 2) := by decide +kernel
theorem dX12_init_306 : decode cX12_init 306 = .ok (.iconst (-1), 1) := by decide +kernel
theorem dX12_init_307 : decode cX12_init 307 = .ok (.iastore, 1) := by decide +kernel
theorem dX12_init_308 : decode cX12_init 308 = .ok (.dup, 1) := by decide +kernel
theorem dX12_init_309 : decode cX12_init 309 = .ok (.bipush 7, 2) := by decide +kernel
theorem dX12_init_311 : decode cX12_init 311 = .ok (.iconst (-1), 1) := by decide +kernel
theorem dX12_init_312 : decode cX12_init 312 = .ok (.iastore, 1) := by decide +kernel
theorem dX12_init_313 : decode cX12_init 313 = .ok (.dup, 1) := by decide +kernel
theorem dX12_init_314 : decode cX12_init 314 = .ok (.bipush 8, 2) := by decide +kernel
theorem dX12_init_316 : decode cX12_init 316 = .ok (.iconst (-1), 1) := by decide +kernel
theorem dX12_init_317 : decode cX12_init 317 = .ok (.iastore, 1) := by decide +kernel
theorem dX12_init_318 : decode cX12_init 318 = .ok (.dup, 1) := by decide +kernel
theorem dX12_init_319 : decode cX12_init 319 = .ok (.bipush 9, 2) := by decide +kernel
theorem dX12_init_321 : decode cX12_init 321 = .ok (.iconst (-1), 1) := by decide +kernel
theorem dX12_init_322 : decode cX12_init 322 = .ok (.iastore, 1) := by decide +kernel
theorem dX12_init_323 : decode cX12_init 323 = .ok (.dup, 1) := by decide +kernel
theorem dX12_init_324 : decode cX12_init 324 = .ok (.bipush 10, 2) := by decide +kernel
theorem dX12_init_326 : decode cX12_init 326 = .ok (.iconst (-1), 1) := by decide +kernel
theorem dX12_init_327 : decode cX12_init 327 = .ok (.iastore, 1) := by decide +kernel
theorem dX12_init_328 : decode cX12_init 328 = .ok (.dup, 1) := by decide +kernel
theorem dX12_init_329 : decode cX12_init 329 = .ok (.bipush 11, 2) := by decide +kernel
theorem dX12_init_331 : decode cX12_init 331 = .ok (.iconst (-1), 1) := by decide +kernel
theorem dX12_init_332 : decode cX12_init 332 = .ok (.iastore, 1) := by decide +kernel
theorem dX12_init_333 : decode cX12_init 333 = .ok (.putfield 86, 3) := by decide +kernel
theorem dX12_init_336 : decode cX12_init 336 = .ok (.aload_n 0, 1) := by decide +kernel
theorem dX12_init_337 : decode cX12_init 337 = .ok (.bipush 12, 2) := by decide +kernel
theorem dX12_init_339 : decode cX12_init 339 = .ok (.newarray .int, 2) := by decide +kernel
theorem dX12_init_341 : decode cX12_init 341 = .ok (.putfield 89, 3) := by decide +kernel
theorem dX12_init_344 : decode cX12_init 344 = .ok (.aload_n 0, 1) := by decide +kernel
theorem dX12_init_345 : decode cX12_init 345 = .ok (.iconst 4, 1) := by decide +kernel
theorem dX12_init_346 : decode cX12_init 346 = .ok (.newarray .int, 2) := by decide +kernel
theorem dX12_init_348 : decode cX12_init 348 = .ok (.putfield 92, 3) := by decide +kernel
theorem dX12_init_351 : decode cX12_init 351 = .ok (.aload_n 0, 1) := by decide +kernel
theorem dX12_init_352 : decode cX12_init 352 = .ok (.iconst 4, 1) := by decide +kernel
theorem dX12_init_353 : decode cX12_init 353 = .ok (.newarray .int, 2) := by decide +kernel
theorem dX12_init_355 : decode cX12_init 355 = .ok (.dup, 1) := by decide +kernel
theorem dX12_init_356 : decode cX12_init 356 = .ok (.iconst 0, 1) := by decide +kernel
theorem dX12_init_357 : decode cX12_init 357 = .ok (.iconst (-1), 1) := by decide +kernel
theorem dX12_init_358 : decode cX12_init 358 = .ok (.iastore, 1) := by decide +kernel
theorem dX12_init_359 : decode cX12_init 359 = .ok (.dup, 1) := by decide +kernel
theorem dX12_init_360 : decode cX12_init 360 = .ok (.iconst 1, 1) := by decide +kernel
theorem dX12_init_361 : decode cX12_init 361 = .ok (.iconst (-1), 1) := by decide +kernel
theorem dX12_init_362 : decode cX12_init 362 = .ok (.iastore, 1) := by decide +kernel
theorem dX12_init_363 : decode cX12_init 363 = .ok (.dup, 1) := by decide +kernel
theorem dX12_init_364 : decode cX12_init 364 = .ok (.iconst 2, 1) := by decide +kernel
theorem dX12_init_365 : decode cX12_init 365 = .ok (.iconst (-1), 1) := by decide +kernel
theorem dX12_init_366 : decode cX12_init 366 = .ok (.iastore, 1) := by decide +kernel
theorem dX12_init_367 : decode cX12_init 367 = .ok (.dup, 1) := by decide +kernel
theorem dX12_init_368 : decode cX12_init 368 = .ok (.iconst 3, 1) := by decide +kernel
theorem dX12_init_369 : decode cX12_init 369 = .ok (.iconst (-1), 1) := by decide +kernel
theorem dX12_init_370 : decode cX12_init 370 = .ok (.iastore, 1) := by decide +kernel
theorem dX12_init_371 : decode cX12_init 371 = .ok (.putfield 95, 3) := by decide +kernel
theorem dX12_init_374 : decode cX12_init 374 = .ok (.aload_n 0, 1) := by decide +kernel
theorem dX12_init_375 : decode cX12_init 375 = .ok (.iconst 4, 1) := by decide +kernel
theorem dX12_init_376 : decode cX12_init 376 = .ok (.newarray .int, 2) := by decide +kernel
theorem dX12_init_378 : decode cX12_init 378 = .ok (.putfield 98, 3) := by decide +kernel
theorem dX12_init_381 : decode cX12_init 381 = .ok (.aload_n 0, 1) := by decide +kernel
theorem dX12_init_382 : decode cX12_init 382 = .ok (.sipush 160, 3) := by decide +kernel
theorem dX12_init_385 : decode cX12_init 385 = .ok (.newarray .int, 2) := by decide +kernel
theorem dX12_init_387 : decode cX12_init 387 = .ok (.putfield 101, 3) := by decide +kernel
theorem dX12_init_390 : decode cX12_init 390 = .ok (.aload_n 0, 1) := by decide +kernel
theorem dX12_init_391 : decode cX12_init 391 = .ok (.bipush 10, 2) := by decide +kernel
theorem dX12_init_393 : decode cX12_init 393 = .ok (.newarray .int, 2) := by decide +kernel
theorem dX12_init_395 : decode cX12_init 395 = .ok (.putfield 104, 3) := by decide +kernel
theorem dX12_init_398 : decode cX12_init 398 = .ok (.aload_n 0, 1) := by decide +kernel
theorem dX12_init_399 : decode cX12_init 399 = .ok (.bipush 12, 2) := by decide +kernel
theorem dX12_init_401 : decode cX12_init 401 = .ok (.newarray .int, 2) := by decide +kernel
theorem dX12_init_403 : decode cX12_init 403 = .ok (.putfield 107, 3) := by decide +kernel
theorem dX12_init_406 : decode cX12_init 406 = .ok (.aload_n 0, 1) := by decide +kernel
theorem dX12_init_407 : decode cX12_init 407 = .ok (.bipush 12, 2) := by decide +kernel
theorem dX12_init_409 : decode cX12_init 409 = .ok (.newarray .int, 2) := by decide +kernel
theorem dX12_init_411 : decode cX12_init 411 = .ok (.putfield 110, 3) := by decide +kernel
theorem dX12_init_414 : decode cX12_init 414 = .ok (.aload_n 0, 1) := by decide +kernel
theorem dX12_init_415 : decode cX12_init 415 = .ok (.sipush 1024, 3) := by decide +kernel
theorem dX12_init_418 : decode cX12_init 418 = .ok (.newarray .int, 2) := by decide +kernel
theorem dX12_init_420 : decode cX12_init 420 = .ok (.putfield 113, 3) := by decide +kernel
theorem dX12_init_423 : decode cX12_init 423 = .ok (.aload_n 0, 1) := by decide +kernel
theorem dX12_init_424 : decode cX12_init 424 = .ok (.bipush 6, 2) := by decide +kernel
theorem dX12_init_426 : decode cX12_init 426 = .ok (.newarray .int, 2) := by decide +kernel
theorem dX12_init_428 : decode cX12_init 428 = .ok (.putfield 116, 3) := by decide +kernel
theorem dX12_init_431 : decode cX12_init 431 = .ok (.aload_n 0, 1) := by decide +kernel
theorem dX12_init_432 : decode cX12_init 432 = .ok (.bipush 6, 2) := by decide +kernel
theorem dX12_init_434 : decode cX12_init 434 = .ok (.newarray .int, 2) := by decide +kernel
theorem dX12_init_436 : decode cX12_init 436 = .ok (.putfield 119, 3) := by decide +kernel
theorem dX12_init_439 : decode cX12_init 439 = .ok (.aload_n 0, 1) := by decide +kernel
theorem dX12_init_440 : decode cX12_init 440 = .ok (.sipush 400, 3) := by decide +kernel
theorem dX12_init_443 : decode cX12_init 443 = .ok (.newarray .int, 2) := by decide +kernel
theorem dX12_init_445 : decode cX12_init 445 = .ok (.putfield 122, 3) := by decide +kernel
theorem dX12_init_448 : decode cX12_init 448 = .ok (.return_, 1) := by decide +kernel
theorem s138_0 : aW d 138 0 [.ref o] S h Q = aW d 138 1 [.ref o] (.ref o :: S) h Q := ax_aload_n mt138 dX12_init_0 rfl
theorem s138_1 : aW (d + 1) 138 1 L (.ref o :: []) h Q = aW (d + 1) 138 4 L [] h Q := ax_obj mt138 dX12_init_1 (by decide) ct_49153 (Nat.le_of_ble_eq_true rfl)
theorem s138_4 : aW d 138 4 [.ref o] S h Q = aW d 138 5 [.ref o] (.ref o :: S) h Q := ax_aload_n mt138 dX12_init_4 rfl
theorem s138_5 : aW d 138 5 L S h Q = aW d 138 8 L (.int (nI 240) :: S) h Q := ax_sipush mt138 dX12_init_5 sp_240
theorem s138_8 (hn : ¬ a < 0 ∧ a.toNatClampNeg ≤ 100000) : aW d 138 8 L (.int a :: S) h Q = aW d 138 10 L (.ref h.1.length :: S) (nO h 0 a.toNatClampNeg) Q := ax_newi mt138 dX12_init_8 hn
theorem s138_10 (hT : gT h o = some (14, 54)) : aW d 138 10 L (.ref o2 :: .ref o :: S) h Q = aW d 138 13 L S (pR h o 0 (.ref o2)) Q := ax_puta mt138 dX12_init_10 (by decide) ft_49159 (fun q => q.2 ⟨rfl, rfl, rfl⟩) fp_49159 hT
theorem s138_13 : aW d 138 13 [.ref o] S h Q = aW d 138 14 [.ref o] (.ref o :: S) h Q := ax_aload_n mt138 dX12_init_13 rfl
theorem s138_14 : aW d 138 14 L S h Q = aW d 138 15 L (.int (nI 4) :: S) h Q := ax_iconst mt138 dX12_init_14 ic_4
theorem s138_15 (hn : ¬ a < 0 ∧ a.toNatClampNeg ≤ 100000) : aW d 138 15 L (.int a :: S) h Q = aW d 138 17 L (.ref h.1.length :: S) (nO h 0 a.toNatClampNeg) Q := ax_newi mt138 dX12_init_15 hn
theorem s138_17 : aW d 138 17 L (.ref o :: S) h Q = aW d 138 18 L (.ref o :: .ref o :: S) h Q := ax_dupa mt138 dX12_init_17
theorem s138_18 : aW d 138 18 L S h Q = aW d 138 19 L (.int (nI 0) :: S) h Q := ax_iconst mt138 dX12_init_18 ic_0
theorem s138_19 : aW d 138 19 L S h Q = aW d 138 20 L (.int (nI 1) :: S) h Q := ax_iconst mt138 dX12_init_19 ic_1
theorem s138_20 : aW d 138 20 L (.int b :: .int a :: .ref o :: S) h Q = (inb a (aJ h o) ∧ aW d 138 21 L S (pI h o a.toNatClampNeg b) Q) := ax_iast mt138 dX12_init_20
theorem s138_21 : aW d 138 21 L (.ref o :: S) h Q = aW d 138 22 L (.ref o :: .ref o :: S) h Q := ax_dupa mt138 dX12_init_21
theorem s138_22 : aW d 138 22 L S h Q = aW d 138 23 L (.int (nI 1) :: S) h Q := ax_iconst mt138 dX12_init_22 ic_1
theorem s138_23 : aW d 138 23 L S h Q = aW d 138 24 L (.int (nI 1) :: S) h Q := ax_iconst mt138 dX12_init_23 ic_1
theorem s138_24 : aW d 138 24 L (.int b :: .int a :: .ref o :: S) h Q = (inb a (aJ h o) ∧ aW d 138 25 L S (pI h o a.toNatClampNeg b) Q) := ax_iast mt138 dX12_init_24
theorem s138_25 : aW d 138 25 L (.ref o :: S) h Q = aW d 138 26 L (.ref o :: .ref o :: S) h Q := ax_dupa mt138 dX12_init_25
theorem s138_26 : aW d 138 26 L S h Q = aW d 138 27 L (.int (nI 2) :: S) h Q := ax_iconst mt138 dX12_init_26 ic_2
theorem s138_27 : aW d 138 27 L S h Q = aW d 138 28 L (.int (nI 1) :: S) h Q := ax_iconst mt138 dX12_init_27 ic_1
theorem s138_28 : aW d 138 28 L (.int b :: .int a :: .ref o :: S) h Q = (inb a (aJ h o) ∧ aW d 138 29 L S (pI h o a.toNatClampNeg b) Q) := ax_iast mt138 dX12_init_28
theorem s138_29 : aW d 138 29 L (.ref o :: S) h Q = aW d 138 30 L (.ref o :: .ref o :: S) h Q := ax_dupa mt138 dX12_init_29
theorem s138_30 : aW d 138 30 L S h Q = aW d 138 31 L (.int (nI 3) :: S) h Q := ax_iconst mt138 dX12_init_30 ic_3
theorem s138_31 : aW d 138 31 L S h Q = aW d 138 32 L (.int (nI 1) :: S) h Q := ax_iconst mt138 dX12_init_31 ic_1
theorem s138_32 : aW d 138 32 L (.int b :: .int a :: .ref o :: S) h Q = (inb a (aJ h o) ∧ aW d 138 33 L S (pI h o a.toNatClampNeg b) Q) := ax_iast mt138 dX12_init_32
theorem s138_33 (hT : gT h o = some (14, 54)) : aW d 138 33 L (.ref o2 :: .ref o :: S) h Q = aW d 138 36 L S (pR h o 3 (.ref o2)) Q := ax_puta mt138 dX12_init_33 (by decide) ft_49165 (fun q => q.2 ⟨rfl, rfl, rfl⟩) fp_49165 hT
theorem s138_36 : aW d 138 36 [.ref o] S h Q = aW d 138 37 [.ref o] (.ref o :: S) h Q := ax_aload_n mt138 dX12_init_36 rfl
theorem s138_37 : aW d 138 37 L S h Q = aW d 138 39 L (.int (nI 12) :: S) h Q := ax_bipush mt138 dX12_init_37 bp_12
theorem s138_39 (hn : ¬ a < 0 ∧ a.toNatClampNeg ≤ 100000) : aW d 138 39 L (.int a :: S) h Q = aW d 138 41 L (.ref h.1.length :: S) (nO h 1 a.toNatClampNeg) Q := ax_newz mt138 dX12_init_39 hn
theorem s138_41 (hT : gT h o = some (14, 54)) : aW d 138 41 L (.ref o2 :: .ref o :: S) h Q = aW d 138 44 L S (pR h o 5 (.ref o2)) Q := ax_puta mt138 dX12_init_41 (by decide) ft_49168 (fun q => q.2 ⟨rfl, rfl, rfl⟩) fp_49168 hT
theorem s138_44 : aW d 138 44 [.ref o] S h Q = aW d 138 45 [.ref o] (.ref o :: S) h Q := ax_aload_n mt138 dX12_init_44 rfl
theorem s138_45 : aW d 138 45 L S h Q = aW d 138 47 L (.int (nI 12) :: S) h Q := ax_bipush mt138 dX12_init_45 bp_12
theorem s138_47 (hn : ¬ a < 0 ∧ a.toNatClampNeg ≤ 100000) : aW d 138 47 L (.int a :: S) h Q = aW d 138 49 L (.ref h.1.length :: S) (nO h 0 a.toNatClampNeg) Q := ax_newi mt138 dX12_init_47 hn
theorem s138_49 (hT : gT h o = some (14, 54)) : aW d 138 49 L (.ref o2 :: .ref o :: S) h Q = aW d 138 52 L S (pR h o 6 (.ref o2)) Q := ax_puta mt138 dX12_init_49 (by decide) ft_49172 (fun q => q.2 ⟨rfl, rfl, rfl⟩) fp_49172 hT
theorem s138_52 : aW d 138 52 [.ref o] S h Q = aW d 138 53 [.ref o] (.ref o :: S) h Q := ax_aload_n mt138 dX12_init_52 rfl
theorem s138_53 : aW d 138 53 L S h Q = aW d 138 55 L (.int (nI 48) :: S) h Q := ax_bipush mt138 dX12_init_53 bp_48
theorem s138_55 (hn : ¬ a < 0 ∧ a.toNatClampNeg ≤ 100000) : aW d 138 55 L (.int a :: S) h Q = aW d 138 57 L (.ref h.1.length :: S) (nO h 0 a.toNatClampNeg) Q := ax_newi mt138 dX12_init_55 hn
theorem s138_57 (hT : gT h o = some (14, 54)) : aW d 138 57 L (.ref o2 :: .ref o :: S) h Q = aW d 138 60 L S (pR h o 7 (.ref o2)) Q := ax_puta mt138 dX12_init_57 (by decide) ft_49175 (fun q => q.2 ⟨rfl, rfl, rfl⟩) fp_49175 hT
theorem s138_60 : aW d 138 60 [.ref o] S h Q = aW d 138 61 [.ref o] (.ref o :: S) h Q := ax_aload_n mt138 dX12_init_60 rfl
theorem s138_61 : aW d 138 61 L S h Q = aW d 138 63 L (.int (nI 48) :: S) h Q := ax_bipush mt138 dX12_init_61 bp_48
theorem s138_63 (hn : ¬ a < 0 ∧ a.toNatClampNeg ≤ 100000) : aW d 138 63 L (.int a :: S) h Q = aW d 138 65 L (.ref h.1.length :: S) (nO h 0 a.toNatClampNeg) Q := ax_newi mt138 dX12_init_63 hn
theorem s138_65 (hT : gT h o = some (14, 54)) : aW d 138 65 L (.ref o2 :: .ref o :: S) h Q = aW d 138 68 L S (pR h o 8 (.ref o2)) Q := ax_puta mt138 dX12_init_65 (by decide) ft_49178 (fun q => q.2 ⟨rfl, rfl, rfl⟩) fp_49178 hT
theorem s138_68 : aW d 138 68 [.ref o] S h Q = aW d 138 69 [.ref o] (.ref o :: S) h Q := ax_aload_n mt138 dX12_init_68 rfl
theorem s138_69 : aW d 138 69 L S h Q = aW d 138 71 L (.int (nI 12) :: S) h Q := ax_bipush mt138 dX12_init_69 bp_12
theorem s138_71 (hn : ¬ a < 0 ∧ a.toNatClampNeg ≤ 100000) : aW d 138 71 L (.int a :: S) h Q = aW d 138 73 L (.ref h.1.length :: S) (nO h 1 a.toNatClampNeg) Q := ax_newz mt138 dX12_init_71 hn
theorem s138_73 (hT : gT h o = some (14, 54)) : aW d 138 73 L (.ref o2 :: .ref o :: S) h Q = aW d 138 76 L S (pR h o 9 (.ref o2)) Q := ax_puta mt138 dX12_init_73 (by decide) ft_49181 (fun q => q.2 ⟨rfl, rfl, rfl⟩) fp_49181 hT
theorem s138_76 : aW d 138 76 [.ref o] S h Q = aW d 138 77 [.ref o] (.ref o :: S) h Q := ax_aload_n mt138 dX12_init_76 rfl
theorem s138_77 : aW d 138 77 L S h Q = aW d 138 79 L (.int (nI 10) :: S) h Q := ax_bipush mt138 dX12_init_77 bp_10
theorem s138_79 (hn : ¬ a < 0 ∧ a.toNatClampNeg ≤ 100000) : aW d 138 79 L (.int a :: S) h Q = aW d 138 81 L (.ref h.1.length :: S) (nO h 0 a.toNatClampNeg) Q := ax_newi mt138 dX12_init_79 hn
theorem s138_81 (hT : gT h o = some (14, 54)) : aW d 138 81 L (.ref o2 :: .ref o :: S) h Q = aW d 138 84 L S (pR h o 10 (.ref o2)) Q := ax_puta mt138 dX12_init_81 (by decide) ft_49184 (fun q => q.2 ⟨rfl, rfl, rfl⟩) fp_49184 hT
theorem s138_84 : aW d 138 84 [.ref o] S h Q = aW d 138 85 [.ref o] (.ref o :: S) h Q := ax_aload_n mt138 dX12_init_84 rfl
theorem s138_85 : aW d 138 85 L S h Q = aW d 138 87 L (.int (nI 10) :: S) h Q := ax_bipush mt138 dX12_init_85 bp_10
theorem s138_87 (hn : ¬ a < 0 ∧ a.toNatClampNeg ≤ 100000) : aW d 138 87 L (.int a :: S) h Q = aW d 138 89 L (.ref h.1.length :: S) (nO h 0 a.toNatClampNeg) Q := ax_newi mt138 dX12_init_87 hn
theorem s138_89 (hT : gT h o = some (14, 54)) : aW d 138 89 L (.ref o2 :: .ref o :: S) h Q = aW d 138 92 L S (pR h o 11 (.ref o2)) Q := ax_puta mt138 dX12_init_89 (by decide) ft_49187 (fun q => q.2 ⟨rfl, rfl, rfl⟩) fp_49187 hT
theorem s138_92 : aW d 138 92 [.ref o] S h Q = aW d 138 93 [.ref o] (.ref o :: S) h Q := ax_aload_n mt138 dX12_init_92 rfl
theorem s138_93 : aW d 138 93 L S h Q = aW d 138 95 L (.int (nI 10) :: S) h Q := ax_bipush mt138 dX12_init_93 bp_10
theorem s138_95 (hn : ¬ a < 0 ∧ a.toNatClampNeg ≤ 100000) : aW d 138 95 L (.int a :: S) h Q = aW d 138 97 L (.ref h.1.length :: S) (nO h 0 a.toNatClampNeg) Q := ax_newi mt138 dX12_init_95 hn
theorem s138_97 (hT : gT h o = some (14, 54)) : aW d 138 97 L (.ref o2 :: .ref o :: S) h Q = aW d 138 100 L S (pR h o 12 (.ref o2)) Q := ax_puta mt138 dX12_init_97 (by decide) ft_49190 (fun q => q.2 ⟨rfl, rfl, rfl⟩) fp_49190 hT
theorem s138_100 : aW d 138 100 [.ref o] S h Q = aW d 138 101 [.ref o] (.ref o :: S) h Q := ax_aload_n mt138 dX12_init_100 rfl
theorem s138_101 : aW d 138 101 L S h Q = aW d 138 103 L (.int (nI 10) :: S) h Q := ax_bipush mt138 dX12_init_101 bp_10
theorem s138_103 (hn : ¬ a < 0 ∧ a.toNatClampNeg ≤ 100000) : aW d 138 103 L (.int a :: S) h Q = aW d 138 105 L (.ref h.1.length :: S) (nO h 0 a.toNatClampNeg) Q := ax_newi mt138 dX12_init_103 hn
theorem s138_105 (hT : gT h o = some (14, 54)) : aW d 138 105 L (.ref o2 :: .ref o :: S) h Q = aW d 138 108 L S (pR h o 13 (.ref o2)) Q := ax_puta mt138 dX12_init_105 (by decide) ft_49193 (fun q => q.2 ⟨rfl, rfl, rfl⟩) fp_49193 hT
theorem s138_108 : aW d 138 108 [.ref o] S h Q = aW d 138 109 [.ref o] (.ref o :: S) h Q := ax_aload_n mt138 dX12_init_108 rfl
theorem s138_109 : aW d 138 109 L S h Q = aW d 138 111 L (.int (nI 40) :: S) h Q := ax_bipush mt138 dX12_init_109 bp_40
theorem s138_111 (hn : ¬ a < 0 ∧ a.toNatClampNeg ≤ 100000) : aW d 138 111 L (.int a :: S) h Q = aW d 138 113 L (.ref h.1.length :: S) (nO h 0 a.toNatClampNeg) Q := ax_newi mt138 dX12_init_111 hn
theorem s138_113 (hT : gT h o = some (14, 54)) : aW d 138 113 L (.ref o2 :: .ref o :: S) h Q = aW d 138 116 L S (pR h o 14 (.ref o2)) Q := ax_puta mt138 dX12_init_113 (by decide) ft_49196 (fun q => q.2 ⟨rfl, rfl, rfl⟩) fp_49196 hT
theorem s138_116 : aW d 138 116 [.ref o] S h Q = aW d 138 117 [.ref o] (.ref o :: S) h Q := ax_aload_n mt138 dX12_init_116 rfl
theorem s138_117 : aW d 138 117 L S h Q = aW d 138 119 L (.int (nI 12) :: S) h Q := ax_bipush mt138 dX12_init_117 bp_12
theorem s138_119 (hn : ¬ a < 0 ∧ a.toNatClampNeg ≤ 100000) : aW d 138 119 L (.int a :: S) h Q = aW d 138 121 L (.ref h.1.length :: S) (nO h 1 a.toNatClampNeg) Q := ax_newz mt138 dX12_init_119 hn
theorem s138_121 (hT : gT h o = some (14, 54)) : aW d 138 121 L (.ref o2 :: .ref o :: S) h Q = aW d 138 124 L S (pR h o 16 (.ref o2)) Q := ax_puta mt138 dX12_init_121 (by decide) ft_49199 (fun q => q.2 ⟨rfl, rfl, rfl⟩) fp_49199 hT
theorem s138_124 : aW d 138 124 [.ref o] S h Q = aW d 138 125 [.ref o] (.ref o :: S) h Q := ax_aload_n mt138 dX12_init_124 rfl
theorem s138_125 : aW d 138 125 L S h Q = aW d 138 127 L (.int (nI 12) :: S) h Q := ax_bipush mt138 dX12_init_125 bp_12
theorem s138_127 (hn : ¬ a < 0 ∧ a.toNatClampNeg ≤ 100000) : aW d 138 127 L (.int a :: S) h Q = aW d 138 129 L (.ref h.1.length :: S) (nO h 0 a.toNatClampNeg) Q := ax_newi mt138 dX12_init_127 hn
theorem s138_129 (hT : gT h o = some (14, 54)) : aW d 138 129 L (.ref o2 :: .ref o :: S) h Q = aW d 138 132 L S (pR h o 17 (.ref o2)) Q := ax_puta mt138 dX12_init_129 (by decide) ft_49202 (fun q => q.2 ⟨rfl, rfl, rfl⟩) fp_49202 hT
theorem s138_132 : aW d 138 132 [.ref o] S h Q = aW d 138 133 [.ref o] (.ref o :: S) h Q := ax_aload_n mt138 dX12_init_132 rfl
theorem s138_133 : aW d 138 133 L S h Q = aW d 138 135 L (.int (nI 60) :: S) h Q := ax_bipush mt138 dX12_init_133 bp_60
theorem s138_135 (hn : ¬ a < 0 ∧ a.toNatClampNeg ≤ 100000) : aW d 138 135 L (.int a :: S) h Q = aW d 138 137 L (.ref h.1.length :: S) (nO h 0 a.toNatClampNeg) Q := ax_newi mt138 dX12_init_135 hn
theorem s138_137 (hT : gT h o = some (14, 54)) : aW d 138 137 L (.ref o2 :: .ref o :: S) h Q = aW d 138 140 L S (pR h o 18 (.ref o2)) Q := ax_puta mt138 dX12_init_137 (by decide) ft_49205 (fun q => q.2 ⟨rfl, rfl, rfl⟩) fp_49205 hT
theorem s138_140 : aW d 138 140 [.ref o] S h Q = aW d 138 141 [.ref o] (.ref o :: S) h Q := ax_aload_n mt138 dX12_init_140 rfl
theorem s138_141 : aW d 138 141 L S h Q = aW d 138 143 L (.int (nI 60) :: S) h Q := ax_bipush mt138 dX12_init_141 bp_60
theorem s138_143 (hn : ¬ a < 0 ∧ a.toNatClampNeg ≤ 100000) : aW d 138 143 L (.int a :: S) h Q = aW d 138 145 L (.ref h.1.length :: S) (nO h 0 a.toNatClampNeg) Q := ax_newi mt138 dX12_init_143 hn
theorem s138_145 (hT : gT h o = some (14, 54)) : aW d 138 145 L (.ref o2 :: .ref o :: S) h Q = aW d 138 148 L S (pR h o 19 (.ref o2)) Q := ax_puta mt138 dX12_init_145 (by decide) ft_49208 (fun q => q.2 ⟨rfl, rfl, rfl⟩) fp_49208 hT
theorem s138_148 : aW d 138 148 [.ref o] S h Q = aW d 138 149 [.ref o] (.ref o :: S) h Q := ax_aload_n mt138 dX12_init_148 rfl
theorem s138_149 : aW d 138 149 L S h Q = aW d 138 151 L (.int (nI 12) :: S) h Q := ax_bipush mt138 dX12_init_149 bp_12
theorem s138_151 (hn : ¬ a < 0 ∧ a.toNatClampNeg ≤ 100000) : aW d 138 151 L (.int a :: S) h Q = aW d 138 153 L (.ref h.1.length :: S) (nO h 1 a.toNatClampNeg) Q := ax_newz mt138 dX12_init_151 hn
theorem s138_153 (hT : gT h o = some (14, 54)) : aW d 138 153 L (.ref o2 :: .ref o :: S) h Q = aW d 138 156 L S (pR h o 20 (.ref o2)) Q := ax_puta mt138 dX12_init_153 (by decide) ft_49211 (fun q => q.2 ⟨rfl, rfl, rfl⟩) fp_49211 hT
theorem s138_156 : aW d 138 156 [.ref o] S h Q = aW d 138 157 [.ref o] (.ref o :: S) h Q := ax_aload_n mt138 dX12_init_156 rfl
theorem s138_157 : aW d 138 157 L S h Q = aW d 138 159 L (.int (nI 10) :: S) h Q := ax_bipush mt138 dX12_init_157 bp_10
theorem s138_159 (hn : ¬ a < 0 ∧ a.toNatClampNeg ≤ 100000) : aW d 138 159 L (.int a :: S) h Q = aW d 138 161 L (.ref h.1.length :: S) (nO h 0 a.toNatClampNeg) Q := ax_newi mt138 dX12_init_159 hn
theorem s138_161 (hT : gT h o = some (14, 54)) : aW d 138 161 L (.ref o2 :: .ref o :: S) h Q = aW d 138 164 L S (pR h o 21 (.ref o2)) Q := ax_puta mt138 dX12_init_161 (by decide) ft_49214 (fun q => q.2 ⟨rfl, rfl, rfl⟩) fp_49214 hT
theorem s138_164 : aW d 138 164 [.ref o] S h Q = aW d 138 165 [.ref o] (.ref o :: S) h Q := ax_aload_n mt138 dX12_init_164 rfl
theorem s138_165 : aW d 138 165 L S h Q = aW d 138 167 L (.int (nI 10) :: S) h Q := ax_bipush mt138 dX12_init_165 bp_10
theorem s138_167 (hn : ¬ a < 0 ∧ a.toNatClampNeg ≤ 100000) : aW d 138 167 L (.int a :: S) h Q = aW d 138 169 L (.ref h.1.length :: S) (nO h 0 a.toNatClampNeg) Q := ax_newi mt138 dX12_init_167 hn
theorem s138_169 (hT : gT h o = some (14, 54)) : aW d 138 169 L (.ref o2 :: .ref o :: S) h Q = aW d 138 172 L S (pR h o 22 (.ref o2)) Q := ax_puta mt138 dX12_init_169 (by decide) ft_49217 (fun q => q.2 ⟨rfl, rfl, rfl⟩) fp_49217 hT
theorem s138_172 : aW d 138 172 [.ref o] S h Q = aW d 138 173 [.ref o] (.ref o :: S) h Q := ax_aload_n mt138 dX12_init_172 rfl
theorem s138_173 : aW d 138 173 L S h Q = aW d 138 175 L (.int (nI 10) :: S) h Q := ax_bipush mt138 dX12_init_173 bp_10
theorem s138_175 (hn : ¬ a < 0 ∧ a.toNatClampNeg ≤ 100000) : aW d 138 175 L (.int a :: S) h Q = aW d 138 177 L (.ref h.1.length :: S) (nO h 0 a.toNatClampNeg) Q := ax_newi mt138 dX12_init_175 hn
theorem s138_177 (hT : gT h o = some (14, 54)) : aW d 138 177 L (.ref o2 :: .ref o :: S) h Q = aW d 138 180 L S (pR h o 23 (.ref o2)) Q := ax_puta mt138 dX12_init_177 (by decide) ft_49220 (fun q => q.2 ⟨rfl, rfl, rfl⟩) fp_49220 hT
theorem s138_180 : aW d 138 180 [.ref o] S h Q = aW d 138 181 [.ref o] (.ref o :: S) h Q := ax_aload_n mt138 dX12_init_180 rfl
theorem s138_181 : aW d 138 181 L S h Q = aW d 138 183 L (.int (nI 10) :: S) h Q := ax_bipush mt138 dX12_init_181 bp_10
theorem s138_183 (hn : ¬ a < 0 ∧ a.toNatClampNeg ≤ 100000) : aW d 138 183 L (.int a :: S) h Q = aW d 138 185 L (.ref h.1.length :: S) (nO h 0 a.toNatClampNeg) Q := ax_newi mt138 dX12_init_183 hn
theorem s138_185 (hT : gT h o = some (14, 54)) : aW d 138 185 L (.ref o2 :: .ref o :: S) h Q = aW d 138 188 L S (pR h o 24 (.ref o2)) Q := ax_puta mt138 dX12_init_185 (by decide) ft_49223 (fun q => q.2 ⟨rfl, rfl, rfl⟩) fp_49223 hT
theorem s138_188 : aW d 138 188 [.ref o] S h Q = aW d 138 189 [.ref o] (.ref o :: S) h Q := ax_aload_n mt138 dX12_init_188 rfl
theorem s138_189 : aW d 138 189 L S h Q = aW d 138 191 L (.int (nI 40) :: S) h Q := ax_bipush mt138 dX12_init_189 bp_40
theorem s138_191 (hn : ¬ a < 0 ∧ a.toNatClampNeg ≤ 100000) : aW d 138 191 L (.int a :: S) h Q = aW d 138 193 L (.ref h.1.length :: S) (nO h 0 a.toNatClampNeg) Q := ax_newi mt138 dX12_init_191 hn
theorem s138_193 (hT : gT h o = some (14, 54)) : aW d 138 193 L (.ref o2 :: .ref o :: S) h Q = aW d 138 196 L S (pR h o 25 (.ref o2)) Q := ax_puta mt138 dX12_init_193 (by decide) ft_49226 (fun q => q.2 ⟨rfl, rfl, rfl⟩) fp_49226 hT
theorem s138_196 : aW d 138 196 [.ref o] S h Q = aW d 138 197 [.ref o] (.ref o :: S) h Q := ax_aload_n mt138 dX12_init_196 rfl
theorem s138_197 : aW d 138 197 L S h Q = aW d 138 199 L (.int (nI 10) :: S) h Q := ax_bipush mt138 dX12_init_197 bp_10
theorem s138_199 (hn : ¬ a < 0 ∧ a.toNatClampNeg ≤ 100000) : aW d 138 199 L (.int a :: S) h Q = aW d 138 201 L (.ref h.1.length :: S) (nO h 0 a.toNatClampNeg) Q := ax_newi mt138 dX12_init_199 hn
theorem s138_201 (hT : gT h o = some (14, 54)) : aW d 138 201 L (.ref o2 :: .ref o :: S) h Q = aW d 138 204 L S (pR h o 27 (.ref o2)) Q := ax_puta mt138 dX12_init_201 (by decide) ft_49229 (fun q => q.2 ⟨rfl, rfl, rfl⟩) fp_49229 hT
theorem s138_204 : aW d 138 204 [.ref o] S h Q = aW d 138 205 [.ref o] (.ref o :: S) h Q := ax_aload_n mt138 dX12_init_204 rfl
theorem s138_205 : aW d 138 205 L S h Q = aW d 138 207 L (.int (nI 12) :: S) h Q := ax_bipush mt138 dX12_init_205 bp_12
theorem s138_207 (hn : ¬ a < 0 ∧ a.toNatClampNeg ≤ 100000) : aW d 138 207 L (.int a :: S) h Q = aW d 138 209 L (.ref h.1.length :: S) (nO h 0 a.toNatClampNeg) Q := ax_newi mt138 dX12_init_207 hn
theorem s138_209 : aW d 138 209 L (.ref o :: S) h Q = aW d 138 210 L (.ref o :: .ref o :: S) h Q := ax_dupa mt138 dX12_init_209
theorem s138_210 : aW d 138 210 L S h Q = aW d 138 211 L (.int (nI 0) :: S) h Q := ax_iconst mt138 dX12_init_210 ic_0
theorem s138_211 : aW d 138 211 L S h Q = aW d 138 212 L (.int ((-1)) :: S) h Q := ax_iconst mt138 dX12_init_211 ic_m1
theorem s138_212 : aW d 138 212 L (.int b :: .int a :: .ref o :: S) h Q = (inb a (aJ h o) ∧ aW d 138 213 L S (pI h o a.toNatClampNeg b) Q) := ax_iast mt138 dX12_init_212
theorem s138_213 : aW d 138 213 L (.ref o :: S) h Q = aW d 138 214 L (.ref o :: .ref o :: S) h Q := ax_dupa mt138 dX12_init_213
theorem s138_214 : aW d 138 214 L S h Q = aW d 138 215 L (.int (nI 1) :: S) h Q := ax_iconst mt138 dX12_init_214 ic_1
theorem s138_215 : aW d 138 215 L S h Q = aW d 138 216 L (.int ((-1)) :: S) h Q := ax_iconst mt138 dX12_init_215 ic_m1
theorem s138_216 : aW d 138 216 L (.int b :: .int a :: .ref o :: S) h Q = (inb a (aJ h o) ∧ aW d 138 217 L S (pI h o a.toNatClampNeg b) Q) := ax_iast mt138 dX12_init_216
theorem s138_217 : aW d 138 217 L (.ref o :: S) h Q = aW d 138 218 L (.ref o :: .ref o :: S) h Q := ax_dupa mt138 dX12_init_217
theorem s138_218 : aW d 138 218 L S h Q = aW d 138 219 L (.int (nI 2) :: S) h Q := ax_iconst mt138 dX12_init_218 ic_2
theorem s138_219 : aW d 138 219 L S h Q = aW d 138 220 L (.int ((-1)) :: S) h Q := ax_iconst mt138 dX12_init_219 ic_m1
theorem s138_220 : aW d 138 220 L (.int b :: .int a :: .ref o :: S) h Q = (inb a (aJ h o) ∧ aW d 138 221 L S (pI h o a.toNatClampNeg b) Q) := ax_iast mt138 dX12_init_220
theorem s138_221 : aW d 138 221 L (.ref o :: S) h Q = aW d 138 222 L (.ref o :: .ref o :: S) h Q := ax_dupa mt138 dX12_init_221
theorem s138_222 : aW d 138 222 L S h Q = aW d 138 223 L (.int (nI 3) :: S) h Q := ax_iconst mt138 dX12_init_222 ic_3
theorem s138_223 : aW d 138 223 L S h Q = aW d 138 224 L (.int ((-1)) :: S) h Q := ax_iconst mt138 dX12_init_223 ic_m1
theorem s138_224 : aW d 138 224 L (.int b :: .int a :: .ref o :: S) h Q = (inb a (aJ h o) ∧ aW d 138 225 L S (pI h o a.toNatClampNeg b) Q) := ax_iast mt138 dX12_init_224
theorem s138_225 : aW d 138 225 L (.ref o :: S) h Q = aW d 138 226 L (.ref o :: .ref o :: S) h Q := ax_dupa mt138 dX12_init_225
theorem s138_226 : aW d 138 226 L S h Q = aW d 138 227 L (.int (nI 4) :: S) h Q := ax_iconst mt138 dX12_init_226 ic_4
theorem s138_227 : aW d 138 227 L S h Q = aW d 138 228 L (.int ((-1)) :: S) h Q := ax_iconst mt138 dX12_init_227 ic_m1
theorem s138_228 : aW d 138 228 L (.int b :: .int a :: .ref o :: S) h Q = (inb a (aJ h o) ∧ aW d 138 229 L S (pI h o a.toNatClampNeg b) Q) := ax_iast mt138 dX12_init_228
theorem s138_229 : aW d 138 229 L (.ref o :: S) h Q = aW d 138 230 L (.ref o :: .ref o :: S) h Q := ax_dupa mt138 dX12_init_229
theorem s138_230 : aW d 138 230 L S h Q = aW d 138 231 L (.int (nI 5) :: S) h Q := ax_iconst mt138 dX12_init_230 ic_5
theorem s138_231 : aW d 138 231 L S h Q = aW d 138 232 L (.int ((-1)) :: S) h Q := ax_iconst mt138 dX12_init_231 ic_m1
theorem s138_232 : aW d 138 232 L (.int b :: .int a :: .ref o :: S) h Q = (inb a (aJ h o) ∧ aW d 138 233 L S (pI h o a.toNatClampNeg b) Q) := ax_iast mt138 dX12_init_232
theorem s138_233 : aW d 138 233 L (.ref o :: S) h Q = aW d 138 234 L (.ref o :: .ref o :: S) h Q := ax_dupa mt138 dX12_init_233
theorem s138_234 : aW d 138 234 L S h Q = aW d 138 236 L (.int (nI 6) :: S) h Q := ax_bipush mt138 dX12_init_234 bp_6
theorem s138_236 : aW d 138 236 L S h Q = aW d 138 237 L (.int ((-1)) :: S) h Q := ax_iconst mt138 dX12_init_236 ic_m1
theorem s138_237 : aW d 138 237 L (.int b :: .int a :: .ref o :: S) h Q = (inb a (aJ h o) ∧ aW d 138 238 L S (pI h o a.toNatClampNeg b) Q) := ax_iast mt138 dX12_init_237
theorem s138_238 : aW d 138 238 L (.ref o :: S) h Q = aW d 138 239 L (.ref o :: .ref o :: S) h Q := ax_dupa mt138 dX12_init_238
theorem s138_239 : aW d 138 239 L S h Q = aW d 138 241 L (.int (nI 7) :: S) h Q := ax_bipush mt138 dX12_init_239 bp_7
theorem s138_241 : aW d 138 241 L S h Q = aW d 138 242 L (.int ((-1)) :: S) h Q := ax_iconst mt138 dX12_init_241 ic_m1
theorem s138_242 : aW d 138 242 L (.int b :: .int a :: .ref o :: S) h Q = (inb a (aJ h o) ∧ aW d 138 243 L S (pI h o a.toNatClampNeg b) Q) := ax_iast mt138 dX12_init_242
theorem s138_243 : aW d 138 243 L (.ref o :: S) h Q = aW d 138 244 L (.ref o :: .ref o :: S) h Q := ax_dupa mt138 dX12_init_243
theorem s138_244 : aW d 138 244 L S h Q = aW d 138 246 L (.int (nI 8) :: S) h Q := ax_bipush mt138 dX12_init_244 bp_8
theorem s138_246 : aW d 138 246 L S h Q = aW d 138 247 L (.int ((-1)) :: S) h Q := ax_iconst mt138 dX12_init_246 ic_m1
theorem s138_247 : aW d 138 247 L (.int b :: .int a :: .ref o :: S) h Q = (inb a (aJ h o) ∧ aW d 138 248 L S (pI h o a.toNatClampNeg b) Q) := ax_iast mt138 dX12_init_247
theorem s138_248 : aW d 138 248 L (.ref o :: S) h Q = aW d 138 249 L (.ref o :: .ref o :: S) h Q := ax_dupa mt138 dX12_init_248
theorem s138_249 : aW d 138 249 L S h Q = aW d 138 251 L (.int (nI 9) :: S) h Q := ax_bipush mt138 dX12_init_249 bp_9
theorem s138_251 : aW d 138 251 L S h Q = aW d 138 252 L (.int ((-1)) :: S) h Q := ax_iconst mt138 dX12_init_251 ic_m1
theorem s138_252 : aW d 138 252 L (.int b :: .int a :: .ref o :: S) h Q = (inb a (aJ h o) ∧ aW d 138 253 L S (pI h o a.toNatClampNeg b) Q) := ax_iast mt138 dX12_init_252
theorem s138_253 : aW d 138 253 L (.ref o :: S) h Q = aW d 138 254 L (.ref o :: .ref o :: S) h Q := ax_dupa mt138 dX12_init_253
theorem s138_254 : aW d 138 254 L S h Q = aW d 138 256 L (.int (nI 10) :: S) h Q := ax_bipush mt138 dX12_init_254 bp_10
theorem s138_256 : aW d 138 256 L S h Q = aW d 138 257 L (.int ((-1)) :: S) h Q := ax_iconst mt138 dX12_init_256 ic_m1
theorem s138_257 : aW d 138 257 L (.int b :: .int a :: .ref o :: S) h Q = (inb a (aJ h o) ∧ aW d 138 258 L S (pI h o a.toNatClampNeg b) Q) := ax_iast mt138 dX12_init_257
theorem s138_258 : aW d 138 258 L (.ref o :: S) h Q = aW d 138 259 L (.ref o :: .ref o :: S) h Q := ax_dupa mt138 dX12_init_258
theorem s138_259 : aW d 138 259 L S h Q = aW d 138 261 L (.int (nI 11) :: S) h Q := ax_bipush mt138 dX12_init_259 bp_11
theorem s138_261 : aW d 138 261 L S h Q = aW d 138 262 L (.int ((-1)) :: S) h Q := ax_iconst mt138 dX12_init_261 ic_m1
theorem s138_262 : aW d 138 262 L (.int b :: .int a :: .ref o :: S) h Q = (inb a (aJ h o) ∧ aW d 138 263 L S (pI h o a.toNatClampNeg b) Q) := ax_iast mt138 dX12_init_262
theorem s138_263 (hT : gT h o = some (14, 54)) : aW d 138 263 L (.ref o2 :: .ref o :: S) h Q = aW d 138 266 L S (pR h o 28 (.ref o2)) Q := ax_puta mt138 dX12_init_263 (by decide) ft_49232 (fun q => q.2 ⟨rfl, rfl, rfl⟩) fp_49232 hT
theorem s138_266 : aW d 138 266 [.ref o] S h Q = aW d 138 267 [.ref o] (.ref o :: S) h Q := ax_aload_n mt138 dX12_init_266 rfl
theorem s138_267 : aW d 138 267 L S h Q = aW d 138 269 L (.int (nI 6) :: S) h Q := ax_bipush mt138 dX12_init_267 bp_6
theorem s138_269 (hn : ¬ a < 0 ∧ a.toNatClampNeg ≤ 100000) : aW d 138 269 L (.int a :: S) h Q = aW d 138 271 L (.ref h.1.length :: S) (nO h 0 a.toNatClampNeg) Q := ax_newi mt138 dX12_init_269 hn
theorem s138_271 (hT : gT h o = some (14, 54)) : aW d 138 271 L (.ref o2 :: .ref o :: S) h Q = aW d 138 274 L S (pR h o 31 (.ref o2)) Q := ax_puta mt138 dX12_init_271 (by decide) ft_49235 (fun q => q.2 ⟨rfl, rfl, rfl⟩) fp_49235 hT
theorem s138_274 : aW d 138 274 [.ref o] S h Q = aW d 138 275 [.ref o] (.ref o :: S) h Q := ax_aload_n mt138 dX12_init_274 rfl
theorem s138_275 : aW d 138 275 L S h Q = aW d 138 277 L (.int (nI 12) :: S) h Q := ax_bipush mt138 dX12_init_275 bp_12
theorem s138_277 (hn : ¬ a < 0 ∧ a.toNatClampNeg ≤ 100000) : aW d 138 277 L (.int a :: S) h Q = aW d 138 279 L (.ref h.1.length :: S) (nO h 0 a.toNatClampNeg) Q := ax_newi mt138 dX12_init_277 hn
theorem s138_279 : aW d 138 279 L (.ref o :: S) h Q = aW d 138 280 L (.ref o :: .ref o :: S) h Q := ax_dupa mt138 dX12_init_279
theorem s138_280 : aW d 138 280 L S h Q = aW d 138 281 L (.int (nI 0) :: S) h Q := ax_iconst mt138 dX12_init_280 ic_0
theorem s138_281 : aW d 138 281 L S h Q = aW d 138 282 L (.int ((-1)) :: S) h Q := ax_iconst mt138 dX12_init_281 ic_m1
theorem s138_282 : aW d 138 282 L (.int b :: .int a :: .ref o :: S) h Q = (inb a (aJ h o) ∧ aW d 138 283 L S (pI h o a.toNatClampNeg b) Q) := ax_iast mt138 dX12_init_282
theorem s138_283 : aW d 138 283 L (.ref o :: S) h Q = aW d 138 284 L (.ref o :: .ref o :: S) h Q := ax_dupa mt138 dX12_init_283
theorem s138_284 : aW d 138 284 L S h Q = aW d 138 285 L (.int (nI 1) :: S) h Q := ax_iconst mt138 dX12_init_284 ic_1
theorem s138_285 : aW d 138 285 L S h Q = aW d 138 286 L (.int ((-1)) :: S) h Q := ax_iconst mt138 dX12_init_285 ic_m1
theorem s138_286 : aW d 138 286 L (.int b :: .int a :: .ref o :: S) h Q = (inb a (aJ h o) ∧ aW d 138 287 L S (pI h o a.toNatClampNeg b) Q) := ax_iast mt138 dX12_init_286
theorem s138_287 : aW d 138 287 L (.ref o :: S) h Q = aW d 138 288 L (.ref o :: .ref o :: S) h Q := ax_dupa mt138 dX12_init_287
theorem s138_288 : aW d 138 288 L S h Q = aW d 138 289 L (.int (nI 2) :: S) h Q := ax_iconst mt138 dX12_init_288 ic_2
theorem s138_289 : aW d 138 289 L S h Q = aW d 138 290 L (.int ((-1)) :: S) h Q := ax_iconst mt138 dX12_init_289 ic_m1
theorem s138_290 : aW d 138 290 L (.int b :: .int a :: .ref o :: S) h Q = (inb a (aJ h o) ∧ aW d 138 291 L S (pI h o a.toNatClampNeg b) Q) := ax_iast mt138 dX12_init_290
theorem s138_291 : aW d 138 291 L (.ref o :: S) h Q = aW d 138 292 L (.ref o :: .ref o :: S) h Q := ax_dupa mt138 dX12_init_291
theorem s138_292 : aW d 138 292 L S h Q = aW d 138 293 L (.int (nI 3) :: S) h Q := ax_iconst mt138 dX12_init_292 ic_3
theorem s138_293 : aW d 138 293 L S h Q = aW d 138 294 L (.int ((-1)) :: S) h Q := ax_iconst mt138 dX12_init_293 ic_m1
theorem s138_294 : aW d 138 294 L (.int b :: .int a :: .ref o :: S) h Q = (inb a (aJ h o) ∧ aW d 138 295 L S (pI h o a.toNatClampNeg b) Q) := ax_iast mt138 dX12_init_294
theorem s138_295 : aW d 138 295 L (.ref o :: S) h Q = aW d 138 296 L (.ref o :: .ref o :: S) h Q := ax_dupa mt138 dX12_init_295
theorem s138_296 : aW d 138 296 L S h Q = aW d 138 297 L (.int (nI 4) :: S) h Q := ax_iconst mt138 dX12_init_296 ic_4
theorem s138_297 : aW d 138 297 L S h Q = aW d 138 298 L (.int ((-1)) :: S) h Q := ax_iconst mt138 dX12_init_297 ic_m1
theorem s138_298 : aW d 138 298 L (.int b :: .int a :: .ref o :: S) h Q = (inb a (aJ h o) ∧ aW d 138 299 L S (pI h o a.toNatClampNeg b) Q) := ax_iast mt138 dX12_init_298
theorem s138_299 : aW d 138 299 L (.ref o :: S) h Q = aW d 138 300 L (.ref o :: .ref o :: S) h Q := ax_dupa mt138 dX12_init_299
theorem s138_300 : aW d 138 300 L S h Q = aW d 138 301 L (.int (nI 5) :: S) h Q := ax_iconst mt138 dX12_init_300 ic_5
theorem s138_301 : aW d 138 301 L S h Q = aW d 138 302 L (.int ((-1)) :: S) h Q := ax_iconst mt138 dX12_init_301 ic_m1
theorem s138_302 : aW d 138 302 L (.int b :: .int a :: .ref o :: S) h Q = (inb a (aJ h o) ∧ aW d 138 303 L S (pI h o a.toNatClampNeg b) Q) := ax_iast mt138 dX12_init_302
theorem s138_303 : aW d 138 303 L (.ref o :: S) h Q = aW d 138 304 L (.ref o :: .ref o :: S) h Q := ax_dupa mt138 dX12_init_303
theorem s138_304 : aW d 138 304 L S h Q = aW d 138 306 L (.int (nI 6) :: S) h Q := ax_bipush mt138 dX12_init_304 bp_6
theorem s138_306 : aW d 138 306 L S h Q = aW d 138 307 L (.int ((-1)) :: S) h Q := ax_iconst mt138 dX12_init_306 ic_m1
theorem s138_307 : aW d 138 307 L (.int b :: .int a :: .ref o :: S) h Q = (inb a (aJ h o) ∧ aW d 138 308 L S (pI h o a.toNatClampNeg b) Q) := ax_iast mt138 dX12_init_307
theorem s138_308 : aW d 138 308 L (.ref o :: S) h Q = aW d 138 309 L (.ref o :: .ref o :: S) h Q := ax_dupa mt138 dX12_init_308
theorem s138_309 : aW d 138 309 L S h Q = aW d 138 311 L (.int (nI 7) :: S) h Q := ax_bipush mt138 dX12_init_309 bp_7
theorem s138_311 : aW d 138 311 L S h Q = aW d 138 312 L (.int ((-1)) :: S) h Q := ax_iconst mt138 dX12_init_311 ic_m1
theorem s138_312 : aW d 138 312 L (.int b :: .int a :: .ref o :: S) h Q = (inb a (aJ h o) ∧ aW d 138 313 L S (pI h o a.toNatClampNeg b) Q) := ax_iast mt138 dX12_init_312
theorem s138_313 : aW d 138 313 L (.ref o :: S) h Q = aW d 138 314 L (.ref o :: .ref o :: S) h Q := ax_dupa mt138 dX12_init_313
theorem s138_314 : aW d 138 314 L S h Q = aW d 138 316 L (.int (nI 8) :: S) h Q := ax_bipush mt138 dX12_init_314 bp_8
theorem s138_316 : aW d 138 316 L S h Q = aW d 138 317 L (.int ((-1)) :: S) h Q := ax_iconst mt138 dX12_init_316 ic_m1
theorem s138_317 : aW d 138 317 L (.int b :: .int a :: .ref o :: S) h Q = (inb a (aJ h o) ∧ aW d 138 318 L S (pI h o a.toNatClampNeg b) Q) := ax_iast mt138 dX12_init_317
theorem s138_318 : aW d 138 318 L (.ref o :: S) h Q = aW d 138 319 L (.ref o :: .ref o :: S) h Q := ax_dupa mt138 dX12_init_318
theorem s138_319 : aW d 138 319 L S h Q = aW d 138 321 L (.int (nI 9) :: S) h Q := ax_bipush mt138 dX12_init_319 bp_9
theorem s138_321 : aW d 138 321 L S h Q = aW d 138 322 L (.int ((-1)) :: S) h Q := ax_iconst mt138 dX12_init_321 ic_m1
theorem s138_322 : aW d 138 322 L (.int b :: .int a :: .ref o :: S) h Q = (inb a (aJ h o) ∧ aW d 138 323 L S (pI h o a.toNatClampNeg b) Q) := ax_iast mt138 dX12_init_322
theorem s138_323 : aW d 138 323 L (.ref o :: S) h Q = aW d 138 324 L (.ref o :: .ref o :: S) h Q := ax_dupa mt138 dX12_init_323
theorem s138_324 : aW d 138 324 L S h Q = aW d 138 326 L (.int (nI 10) :: S) h Q := ax_bipush mt138 dX12_init_324 bp_10
theorem s138_326 : aW d 138 326 L S h Q = aW d 138 327 L (.int ((-1)) :: S) h Q := ax_iconst mt138 dX12_init_326 ic_m1
theorem s138_327 : aW d 138 327 L (.int b :: .int a :: .ref o :: S) h Q = (inb a (aJ h o) ∧ aW d 138 328 L S (pI h o a.toNatClampNeg b) Q) := ax_iast mt138 dX12_init_327
theorem s138_328 : aW d 138 328 L (.ref o :: S) h Q = aW d 138 329 L (.ref o :: .ref o :: S) h Q := ax_dupa mt138 dX12_init_328
theorem s138_329 : aW d 138 329 L S h Q = aW d 138 331 L (.int (nI 11) :: S) h Q := ax_bipush mt138 dX12_init_329 bp_11
theorem s138_331 : aW d 138 331 L S h Q = aW d 138 332 L (.int ((-1)) :: S) h Q := ax_iconst mt138 dX12_init_331 ic_m1
theorem s138_332 : aW d 138 332 L (.int b :: .int a :: .ref o :: S) h Q = (inb a (aJ h o) ∧ aW d 138 333 L S (pI h o a.toNatClampNeg b) Q) := ax_iast mt138 dX12_init_332
theorem s138_333 (hT : gT h o = some (14, 54)) : aW d 138 333 L (.ref o2 :: .ref o :: S) h Q = aW d 138 336 L S (pR h o 35 (.ref o2)) Q := ax_puta mt138 dX12_init_333 (by decide) ft_49238 (fun q => q.2 ⟨rfl, rfl, rfl⟩) fp_49238 hT
theorem s138_336 : aW d 138 336 [.ref o] S h Q = aW d 138 337 [.ref o] (.ref o :: S) h Q := ax_aload_n mt138 dX12_init_336 rfl
theorem s138_337 : aW d 138 337 L S h Q = aW d 138 339 L (.int (nI 12) :: S) h Q := ax_bipush mt138 dX12_init_337 bp_12
theorem s138_339 (hn : ¬ a < 0 ∧ a.toNatClampNeg ≤ 100000) : aW d 138 339 L (.int a :: S) h Q = aW d 138 341 L (.ref h.1.length :: S) (nO h 0 a.toNatClampNeg) Q := ax_newi mt138 dX12_init_339 hn
theorem s138_341 (hT : gT h o = some (14, 54)) : aW d 138 341 L (.ref o2 :: .ref o :: S) h Q = aW d 138 344 L S (pR h o 40 (.ref o2)) Q := ax_puta mt138 dX12_init_341 (by decide) ft_49241 (fun q => q.2 ⟨rfl, rfl, rfl⟩) fp_49241 hT
theorem s138_344 : aW d 138 344 [.ref o] S h Q = aW d 138 345 [.ref o] (.ref o :: S) h Q := ax_aload_n mt138 dX12_init_344 rfl
theorem s138_345 : aW d 138 345 L S h Q = aW d 138 346 L (.int (nI 4) :: S) h Q := ax_iconst mt138 dX12_init_345 ic_4
theorem s138_346 (hn : ¬ a < 0 ∧ a.toNatClampNeg ≤ 100000) : aW d 138 346 L (.int a :: S) h Q = aW d 138 348 L (.ref h.1.length :: S) (nO h 0 a.toNatClampNeg) Q := ax_newi mt138 dX12_init_346 hn
theorem s138_348 (hT : gT h o = some (14, 54)) : aW d 138 348 L (.ref o2 :: .ref o :: S) h Q = aW d 138 351 L S (pR h o 41 (.ref o2)) Q := ax_puta mt138 dX12_init_348 (by decide) ft_49244 (fun q => q.2 ⟨rfl, rfl, rfl⟩) fp_49244 hT
theorem s138_351 : aW d 138 351 [.ref o] S h Q = aW d 138 352 [.ref o] (.ref o :: S) h Q := ax_aload_n mt138 dX12_init_351 rfl
theorem s138_352 : aW d 138 352 L S h Q = aW d 138 353 L (.int (nI 4) :: S) h Q := ax_iconst mt138 dX12_init_352 ic_4
theorem s138_353 (hn : ¬ a < 0 ∧ a.toNatClampNeg ≤ 100000) : aW d 138 353 L (.int a :: S) h Q = aW d 138 355 L (.ref h.1.length :: S) (nO h 0 a.toNatClampNeg) Q := ax_newi mt138 dX12_init_353 hn
theorem s138_355 : aW d 138 355 L (.ref o :: S) h Q = aW d 138 356 L (.ref o :: .ref o :: S) h Q := ax_dupa mt138 dX12_init_355
theorem s138_356 : aW d 138 356 L S h Q = aW d 138 357 L (.int (nI 0) :: S) h Q := ax_iconst mt138 dX12_init_356 ic_0
theorem s138_357 : aW d 138 357 L S h Q = aW d 138 358 L (.int ((-1)) :: S) h Q := ax_iconst mt138 dX12_init_357 ic_m1
theorem s138_358 : aW d 138 358 L (.int b :: .int a :: .ref o :: S) h Q = (inb a (aJ h o) ∧ aW d 138 359 L S (pI h o a.toNatClampNeg b) Q) := ax_iast mt138 dX12_init_358
theorem s138_359 : aW d 138 359 L (.ref o :: S) h Q = aW d 138 360 L (.ref o :: .ref o :: S) h Q := ax_dupa mt138 dX12_init_359
theorem s138_360 : aW d 138 360 L S h Q = aW d 138 361 L (.int (nI 1) :: S) h Q := ax_iconst mt138 dX12_init_360 ic_1
theorem s138_361 : aW d 138 361 L S h Q = aW d 138 362 L (.int ((-1)) :: S) h Q := ax_iconst mt138 dX12_init_361 ic_m1
theorem s138_362 : aW d 138 362 L (.int b :: .int a :: .ref o :: S) h Q = (inb a (aJ h o) ∧ aW d 138 363 L S (pI h o a.toNatClampNeg b) Q) := ax_iast mt138 dX12_init_362
theorem s138_363 : aW d 138 363 L (.ref o :: S) h Q = aW d 138 364 L (.ref o :: .ref o :: S) h Q := ax_dupa mt138 dX12_init_363
theorem s138_364 : aW d 138 364 L S h Q = aW d 138 365 L (.int (nI 2) :: S) h Q := ax_iconst mt138 dX12_init_364 ic_2
theorem s138_365 : aW d 138 365 L S h Q = aW d 138 366 L (.int ((-1)) :: S) h Q := ax_iconst mt138 dX12_init_365 ic_m1
theorem s138_366 : aW d 138 366 L (.int b :: .int a :: .ref o :: S) h Q = (inb a (aJ h o) ∧ aW d 138 367 L S (pI h o a.toNatClampNeg b) Q) := ax_iast mt138 dX12_init_366
theorem s138_367 : aW d 138 367 L (.ref o :: S) h Q = aW d 138 368 L (.ref o :: .ref o :: S) h Q := ax_dupa mt138 dX12_init_367
theorem s138_368 : aW d 138 368 L S h Q = aW d 138 369 L (.int (nI 3) :: S) h Q := ax_iconst mt138 dX12_init_368 ic_3
theorem s138_369 : aW d 138 369 L S h Q = aW d 138 370 L (.int ((-1)) :: S) h Q := ax_iconst mt138 dX12_init_369 ic_m1
theorem s138_370 : aW d 138 370 L (.int b :: .int a :: .ref o :: S) h Q = (inb a (aJ h o) ∧ aW d 138 371 L S (pI h o a.toNatClampNeg b) Q) := ax_iast mt138 dX12_init_370
theorem s138_371 (hT : gT h o = some (14, 54)) : aW d 138 371 L (.ref o2 :: .ref o :: S) h Q = aW d 138 374 L S (pR h o 42 (.ref o2)) Q := ax_puta mt138 dX12_init_371 (by decide) ft_49247 (fun q => q.2 ⟨rfl, rfl, rfl⟩) fp_49247 hT
theorem s138_374 : aW d 138 374 [.ref o] S h Q = aW d 138 375 [.ref o] (.ref o :: S) h Q := ax_aload_n mt138 dX12_init_374 rfl
theorem s138_375 : aW d 138 375 L S h Q = aW d 138 376 L (.int (nI 4) :: S) h Q := ax_iconst mt138 dX12_init_375 ic_4
theorem s138_376 (hn : ¬ a < 0 ∧ a.toNatClampNeg ≤ 100000) : aW d 138 376 L (.int a :: S) h Q = aW d 138 378 L (.ref h.1.length :: S) (nO h 0 a.toNatClampNeg) Q := ax_newi mt138 dX12_init_376 hn
theorem s138_378 (hT : gT h o = some (14, 54)) : aW d 138 378 L (.ref o2 :: .ref o :: S) h Q = aW d 138 381 L S (pR h o 43 (.ref o2)) Q := ax_puta mt138 dX12_init_378 (by decide) ft_49250 (fun q => q.2 ⟨rfl, rfl, rfl⟩) fp_49250 hT
theorem s138_381 : aW d 138 381 [.ref o] S h Q = aW d 138 382 [.ref o] (.ref o :: S) h Q := ax_aload_n mt138 dX12_init_381 rfl
theorem s138_382 : aW d 138 382 L S h Q = aW d 138 385 L (.int (nI 160) :: S) h Q := ax_sipush mt138 dX12_init_382 sp_160
theorem s138_385 (hn : ¬ a < 0 ∧ a.toNatClampNeg ≤ 100000) : aW d 138 385 L (.int a :: S) h Q = aW d 138 387 L (.ref h.1.length :: S) (nO h 0 a.toNatClampNeg) Q := ax_newi mt138 dX12_init_385 hn
theorem s138_387 (hT : gT h o = some (14, 54)) : aW d 138 387 L (.ref o2 :: .ref o :: S) h Q = aW d 138 390 L S (pR h o 44 (.ref o2)) Q := ax_puta mt138 dX12_init_387 (by decide) ft_49253 (fun q => q.2 ⟨rfl, rfl, rfl⟩) fp_49253 hT
theorem s138_390 : aW d 138 390 [.ref o] S h Q = aW d 138 391 [.ref o] (.ref o :: S) h Q := ax_aload_n mt138 dX12_init_390 rfl
theorem s138_391 : aW d 138 391 L S h Q = aW d 138 393 L (.int (nI 10) :: S) h Q := ax_bipush mt138 dX12_init_391 bp_10
theorem s138_393 (hn : ¬ a < 0 ∧ a.toNatClampNeg ≤ 100000) : aW d 138 393 L (.int a :: S) h Q = aW d 138 395 L (.ref h.1.length :: S) (nO h 0 a.toNatClampNeg) Q := ax_newi mt138 dX12_init_393 hn
theorem s138_395 (hT : gT h o = some (14, 54)) : aW d 138 395 L (.ref o2 :: .ref o :: S) h Q = aW d 138 398 L S (pR h o 46 (.ref o2)) Q := ax_puta mt138 dX12_init_395 (by decide) ft_49256 (fun q => q.2 ⟨rfl, rfl, rfl⟩) fp_49256 hT
theorem s138_398 : aW d 138 398 [.ref o] S h Q = aW d 138 399 [.ref o] (.ref o :: S) h Q := ax_aload_n mt138 dX12_init_398 rfl
theorem s138_399 : aW d 138 399 L S h Q = aW d 138 401 L (.int (nI 12) :: S) h Q := ax_bipush mt138 dX12_init_399 bp_12
theorem s138_401 (hn : ¬ a < 0 ∧ a.toNatClampNeg ≤ 100000) : aW d 138 401 L (.int a :: S) h Q = aW d 138 403 L (.ref h.1.length :: S) (nO h 0 a.toNatClampNeg) Q := ax_newi mt138 dX12_init_401 hn
theorem s138_403 (hT : gT h o = some (14, 54)) : aW d 138 403 L (.ref o2 :: .ref o :: S) h Q = aW d 138 406 L S (pR h o 47 (.ref o2)) Q := ax_puta mt138 dX12_init_403 (by decide) ft_49259 (fun q => q.2 ⟨rfl, rfl, rfl⟩) fp_49259 hT
theorem s138_406 : aW d 138 406 [.ref o] S h Q = aW d 138 407 [.ref o] (.ref o :: S) h Q := ax_aload_n mt138 dX12_init_406 rfl
theorem s138_407 : aW d 138 407 L S h Q = aW d 138 409 L (.int (nI 12) :: S) h Q := ax_bipush mt138 dX12_init_407 bp_12
theorem s138_409 (hn : ¬ a < 0 ∧ a.toNatClampNeg ≤ 100000) : aW d 138 409 L (.int a :: S) h Q = aW d 138 411 L (.ref h.1.length :: S) (nO h 0 a.toNatClampNeg) Q := ax_newi mt138 dX12_init_409 hn
theorem s138_411 (hT : gT h o = some (14, 54)) : aW d 138 411 L (.ref o2 :: .ref o :: S) h Q = aW d 138 414 L S (pR h o 48 (.ref o2)) Q := ax_puta mt138 dX12_init_411 (by decide) ft_49262 (fun q => q.2 ⟨rfl, rfl, rfl⟩) fp_49262 hT
theorem s138_414 : aW d 138 414 [.ref o] S h Q = aW d 138 415 [.ref o] (.ref o :: S) h Q := ax_aload_n mt138 dX12_init_414 rfl
theorem s138_415 : aW d 138 415 L S h Q = aW d 138 418 L (.int (nI 1024) :: S) h Q := ax_sipush mt138 dX12_init_415 sp_1024
theorem s138_418 (hn : ¬ a < 0 ∧ a.toNatClampNeg ≤ 100000) : aW d 138 418 L (.int a :: S) h Q = aW d 138 420 L (.ref h.1.length :: S) (nO h 0 a.toNatClampNeg) Q := ax_newi mt138 dX12_init_418 hn
theorem s138_420 (hT : gT h o = some (14, 54)) : aW d 138 420 L (.ref o2 :: .ref o :: S) h Q = aW d 138 423 L S (pR h o 49 (.ref o2)) Q := ax_puta mt138 dX12_init_420 (by decide) ft_49265 (fun q => q.2 ⟨rfl, rfl, rfl⟩) fp_49265 hT
theorem s138_423 : aW d 138 423 [.ref o] S h Q = aW d 138 424 [.ref o] (.ref o :: S) h Q := ax_aload_n mt138 dX12_init_423 rfl
theorem s138_424 : aW d 138 424 L S h Q = aW d 138 426 L (.int (nI 6) :: S) h Q := ax_bipush mt138 dX12_init_424 bp_6
theorem s138_426 (hn : ¬ a < 0 ∧ a.toNatClampNeg ≤ 100000) : aW d 138 426 L (.int a :: S) h Q = aW d 138 428 L (.ref h.1.length :: S) (nO h 0 a.toNatClampNeg) Q := ax_newi mt138 dX12_init_426 hn
theorem s138_428 (hT : gT h o = some (14, 54)) : aW d 138 428 L (.ref o2 :: .ref o :: S) h Q = aW d 138 431 L S (pR h o 50 (.ref o2)) Q := ax_puta mt138 dX12_init_428 (by decide) ft_49268 (fun q => q.2 ⟨rfl, rfl, rfl⟩) fp_49268 hT
theorem s138_431 : aW d 138 431 [.ref o] S h Q = aW d 138 432 [.ref o] (.ref o :: S) h Q := ax_aload_n mt138 dX12_init_431 rfl
theorem s138_432 : aW d 138 432 L S h Q = aW d 138 434 L (.int (nI 6) :: S) h Q := ax_bipush mt138 dX12_init_432 bp_6
theorem s138_434 (hn : ¬ a < 0 ∧ a.toNatClampNeg ≤ 100000) : aW d 138 434 L (.int a :: S) h Q = aW d 138 436 L (.ref h.1.length :: S) (nO h 0 a.toNatClampNeg) Q := ax_newi mt138 dX12_init_434 hn
theorem s138_436 (hT : gT h o = some (14, 54)) : aW d 138 436 L (.ref o2 :: .ref o :: S) h Q = aW d 138 439 L S (pR h o 51 (.ref o2)) Q := ax_puta mt138 dX12_init_436 (by decide) ft_49271 (fun q => q.2 ⟨rfl, rfl, rfl⟩) fp_49271 hT
theorem s138_439 : aW d 138 439 [.ref o] S h Q = aW d 138 440 [.ref o] (.ref o :: S) h Q := ax_aload_n mt138 dX12_init_439 rfl
theorem s138_440 : aW d 138 440 L S h Q = aW d 138 443 L (.int (nI 400) :: S) h Q := ax_sipush mt138 dX12_init_440 sp_400
theorem s138_443 (hn : ¬ a < 0 ∧ a.toNatClampNeg ≤ 100000) : aW d 138 443 L (.int a :: S) h Q = aW d 138 445 L (.ref h.1.length :: S) (nO h 0 a.toNatClampNeg) Q := ax_newi mt138 dX12_init_443 hn
theorem s138_445 (hT : gT h o = some (14, 54)) : aW d 138 445 L (.ref o2 :: .ref o :: S) h Q = aW d 138 448 L S (pR h o 52 (.ref o2)) Q := ax_puta mt138 dX12_init_445 (by decide) ft_49274 (fun q => q.2 ⟨rfl, rfl, rfl⟩) fp_49274 hT
theorem s138_448 : aW d 138 448 L [] h Q = Q none h := ax_retv mt138 dX12_init_448 rfl
-- method 139: BufferRoomModel.in(III)Z
theorem dX12_in_0 : decode cX12_in 0 = .ok (.iload_n 0, 1) := by decide +kernel
theorem dX12_in_1 : decode cX12_in 1 = .ok (.iload_n 1, 1) := by decide +kernel
theorem dX12_in_2 : decode cX12_in 2 = .ok (.if_icmp .lt 12, 3) := by decide +kernel
theorem dX12_in_5 : decode cX12_in 5 = .ok (.iload_n 0, 1) := by decide +kernel
theorem dX12_in_6 : decode cX12_in 6 = .ok (.iload_n 2, 1) := by decide +kernel
theorem dX12_in_7 : decode cX12_in 7 = .ok (.if_icmp .gt 7, 3) := by decide +kernel
theorem dX12_in_10 : decode cX12_in 10 = .ok (.iconst 1, 1) := by decide +kernel
theorem dX12_in_11 : decode cX12_in 11 = .ok (.goto 4, 3) := by decide +kernel
theorem dX12_in_14 : decode cX12_in 14 = .ok (.iconst 0, 1) := by decide +kernel
theorem dX12_in_15 : decode cX12_in 15 = .ok (.ireturn, 1) := by decide +kernel
theorem s139_0 : aW d 139 0 [.int a, l1, l2] S h Q = aW d 139 1 [.int a, l1, l2] (.int a :: S) h Q := ax_iload_n mt139 dX12_in_0 rfl
theorem s139_1 : aW d 139 1 [l0, .int a, l2] S h Q = aW d 139 2 [l0, .int a, l2] (.int a :: S) h Q := ax_iload_n mt139 dX12_in_1 rfl
theorem s139_2 : aW d 139 2 L (.int b :: .int a :: S) h Q = (if a < b then aW d 139 14 L S h Q else aW d 139 5 L S h Q) := ax_icmp_lt mt139 dX12_in_2 (by decide)
theorem s139_5 : aW d 139 5 [.int a, l1, l2] S h Q = aW d 139 6 [.int a, l1, l2] (.int a :: S) h Q := ax_iload_n mt139 dX12_in_5 rfl
theorem s139_6 : aW d 139 6 [l0, l1, .int a] S h Q = aW d 139 7 [l0, l1, .int a] (.int a :: S) h Q := ax_iload_n mt139 dX12_in_6 rfl
theorem s139_7 : aW d 139 7 L (.int b :: .int a :: S) h Q = (if b < a then aW d 139 14 L S h Q else aW d 139 10 L S h Q) := ax_icmp_gt mt139 dX12_in_7 (by decide)
theorem s139_10 : aW d 139 10 L S h Q = aW d 139 11 L (.int (nI 1) :: S) h Q := ax_iconst mt139 dX12_in_10 ic_1
theorem s139_11 : aW d 139 11 L S h Q = aW d 139 15 L S h Q := ax_goto mt139 dX12_in_11 (by decide)
theorem s139_15 : aW d 139 15 L [.int a] h Q = (b01 a ∧ Q (some (.int a)) h) := ax_retz mt139 dX12_in_15 rfl
theorem s139_14 : aW d 139 14 L S h Q = aW d 139 15 L (.int (nI 0) :: S) h Q := ax_iconst mt139 dX12_in_14 ic_0
-- method 140: BufferRoomModel.feed(JI)I
theorem dX12_feed_0 : decode cX12_feed 0 = .ok (.iload_n 3, 1) := by decide +kernel
theorem dX12_feed_1 : decode cX12_feed 1 = .ok (.iconst 1, 1) := by decide +kernel
theorem dX12_feed_2 : decode cX12_feed 2 = .ok (.bipush 8, 2) := by decide +kernel
theorem dX12_feed_4 : decode cX12_feed 4 = .ok (.invokestatic 125, 3) := by decide +kernel
theorem dX12_feed_7 : decode cX12_feed 7 = .ok (.ifCond .ne 6, 3) := by decide +kernel
theorem dX12_feed_10 : decode cX12_feed 10 = .ok (.bipush (-2), 2) := by decide +kernel
theorem dX12_feed_12 : decode cX12_feed 12 = .ok (.ireturn, 1) := by decide +kernel
theorem dX12_feed_13 : decode cX12_feed 13 = .ok (.aload_n 0, 1) := by decide +kernel
theorem dX12_feed_14 : decode cX12_feed 14 = .ok (.getfield 129, 3) := by decide +kernel
theorem dX12_feed_17 : decode cX12_feed 17 = .ok (.iload_n 3, 1) := by decide +kernel
theorem dX12_feed_18 : decode cX12_feed 18 = .ok (.iadd, 1) := by decide +kernel
theorem dX12_feed_19 : decode cX12_feed 19 = .ok (.sipush 240, 3) := by decide +kernel
theorem dX12_feed_22 : decode cX12_feed 22 = .ok (.if_icmp .le 6, 3) := by decide +kernel
theorem dX12_feed_25 : decode cX12_feed 25 = .ok (.bipush (-4), 2) := by decide +kernel
theorem dX12_feed_27 : decode cX12_feed 27 = .ok (.ireturn, 1) := by decide +kernel
theorem dX12_feed_28 : decode cX12_feed 28 = .ok (.iload_n 3, 1) := by decide +kernel
theorem dX12_feed_29 : decode cX12_feed 29 = .ok (.iconst 1, 1) := by decide +kernel
theorem dX12_feed_30 : decode cX12_feed 30 = .ok (.isub, 1) := by decide +kernel
theorem dX12_feed_31 : decode cX12_feed 31 = .ok (.istore 4, 2) := by decide +kernel
theorem dX12_feed_33 : decode cX12_feed 33 = .ok (.iload 4, 2) := by decide +kernel
theorem dX12_feed_35 : decode cX12_feed 35 = .ok (.ifCond .lt 40, 3) := by decide +kernel
theorem dX12_feed_38 : decode cX12_feed 38 = .ok (.aload_n 0, 1) := by decide +kernel
theorem dX12_feed_39 : decode cX12_feed 39 = .ok (.getfield 7, 3) := by decide +kernel
theorem dX12_feed_42 : decode cX12_feed 42 = .ok (.aload_n 0, 1) := by decide +kernel
theorem dX12_feed_43 : decode cX12_feed 43 = .ok (.getfield 129, 3) := by decide +kernel
theorem dX12_feed_46 : decode cX12_feed 46 = .ok (.lload_n 1, 1) := by decide +kernel
theorem dX12_feed_47 : decode cX12_feed 47 = .ok (.bipush 8, 2) := by decide +kernel
theorem dX12_feed_49 : decode cX12_feed 49 = .ok (.iload 4, 2) := by decide +kernel
theorem dX12_feed_51 : decode cX12_feed 51 = .ok (.imul, 1) := by decide +kernel
theorem dX12_feed_52 : decode cX12_feed 52 = .ok (.lshr, 1) := by decide +kernel
theorem dX12_feed_53 : decode cX12_feed 53 = .ok (.ldc2_w 133, 3) := by decide +kernel
theorem dX12_feed_56 : decode cX12_feed 56 = .ok (.land, 1) := by decide +kernel
theorem dX12_feed_57 : decode cX12_feed 57 = .ok (.l2i, 1) := by decide +kernel
theorem dX12_feed_58 : decode cX12_feed 58 = .ok (.iastore, 1) := by decide +kernel
theorem dX12_feed_59 : decode cX12_feed 59 = .ok (.aload_n 0, 1) := by decide +kernel
theorem dX12_feed_60 : decode cX12_feed 60 = .ok (.dup, 1) := by decide +kernel
theorem dX12_feed_61 : decode cX12_feed 61 = .ok (.getfield 129, 3) := by decide +kernel
theorem dX12_feed_64 : decode cX12_feed 64 = .ok (.iconst 1, 1) := by decide +kernel
theorem dX12_feed_65 : decode cX12_feed 65 = .ok (.iadd, 1) := by decide +kernel
theorem dX12_feed_66 : decode cX12_feed 66 = .ok (.putfield 129, 3) := by decide +kernel
theorem dX12_feed_69 : decode cX12_feed 69 = .ok (.iinc 4 (-1), 3) := by decide +kernel
theorem dX12_feed_72 : decode cX12_feed 72 = .ok (.goto (-39), 3) := by decide +kernel
theorem dX12_feed_75 : decode cX12_feed 75 = .ok (.aload_n 0, 1) := by decide +kernel
theorem dX12_feed_76 : decode cX12_feed 76 = .ok (.getfield 129, 3) := by decide +kernel
theorem dX12_feed_79 : decode cX12_feed 79 = .ok (.ireturn, 1) := by decide +kernel
theorem s140_0 : aW d 140 0 [l0, l1, l2, .int a, l4] S h Q = aW d 140 1 [l0, l1, l2, .int a, l4] (.int a :: S) h Q := ax_iload_n mt140 dX12_feed_0 rfl
theorem s140_1 : aW d 140 1 L S h Q = aW d 140 2 L (.int (nI 1) :: S) h Q := ax_iconst mt140 dX12_feed_1 ic_1
theorem s140_2 : aW d 140 2 L S h Q = aW d 140 4 L (.int (nI 8) :: S) h Q := ax_bipush mt140 dX12_feed_2 bp_8
theorem s140_4 : aW (d + 1) 140 4 L (.int x2 :: .int x1 :: .int x0 :: []) h Q = aM d 139 [.int x0, .int x1, .int x2] h (fun v h1 => aW (d + 1) 140 7 L (ab_ps v []) h1 Q) := ax_invs mt140 dX12_feed_4 (by decide) ct_49277 (.inl rfl) mt139 ⟨⟨Nat.le_of_ble_eq_true rfl, Nat.le_of_ble_eq_true rfl, Nat.le_of_ble_eq_true rfl⟩, rfl, rfl⟩
theorem s140_7 : aW d 140 7 L (.int a :: S) h Q = (if a = 0 then aW d 140 10 L S h Q else aW d 140 13 L S h Q) := ax_if_ne mt140 dX12_feed_7 (by decide)
theorem s140_10 : aW d 140 10 L S h Q = aW d 140 12 L (.int ((-2)) :: S) h Q := ax_bipush mt140 dX12_feed_10 bp_m2
theorem s140_12 : aW d 140 12 L [.int a] h Q = Q (some (.int a)) h := ax_reti mt140 dX12_feed_12 rfl
theorem s140_13 : aW d 140 13 [.ref o, l1, l2, l3, l4] S h Q = aW d 140 14 [.ref o, l1, l2, l3, l4] (.ref o :: S) h Q := ax_aload_n mt140 dX12_feed_13 rfl
theorem s140_14 (hT : gT h o = some (14, 54)) : aW d 140 14 L (.ref o :: S) h Q = aW d 140 17 L (.int (gI h o 1) :: S) h Q := ax_geti mt140 dX12_feed_14 (by decide) ft_49281 fk_49281 hT
theorem s140_17 : aW d 140 17 [l0, l1, l2, .int a, l4] S h Q = aW d 140 18 [l0, l1, l2, .int a, l4] (.int a :: S) h Q := ax_iload_n mt140 dX12_feed_17 rfl
theorem s140_18 : aW d 140 18 L (.int b :: .int a :: S) h Q = aW d 140 19 L (.int (a + b) :: S) h Q := ax_iadd mt140 dX12_feed_18
theorem s140_19 : aW d 140 19 L S h Q = aW d 140 22 L (.int (nI 240) :: S) h Q := ax_sipush mt140 dX12_feed_19 sp_240
theorem s140_22 : aW d 140 22 L (.int b :: .int a :: S) h Q = (if b < a then aW d 140 25 L S h Q else aW d 140 28 L S h Q) := ax_icmp_le mt140 dX12_feed_22 (by decide)
theorem s140_25 : aW d 140 25 L S h Q = aW d 140 27 L (.int ((-4)) :: S) h Q := ax_bipush mt140 dX12_feed_25 bp_m4
theorem s140_27 : aW d 140 27 L [.int a] h Q = Q (some (.int a)) h := ax_reti mt140 dX12_feed_27 rfl
theorem s140_28 : aW d 140 28 [l0, l1, l2, .int a, l4] S h Q = aW d 140 29 [l0, l1, l2, .int a, l4] (.int a :: S) h Q := ax_iload_n mt140 dX12_feed_28 rfl
theorem s140_29 : aW d 140 29 L S h Q = aW d 140 30 L (.int (nI 1) :: S) h Q := ax_iconst mt140 dX12_feed_29 ic_1
theorem s140_30 : aW d 140 30 L (.int b :: .int a :: S) h Q = aW d 140 31 L (.int (a - b) :: S) h Q := ax_isub mt140 dX12_feed_30
theorem s140_31 : aW d 140 31 [l0, l1, l2, l3, l4] (.int a :: S) h Q = aW d 140 33 [l0, l1, l2, l3, .int a] S h Q := ax_istore mt140 dX12_feed_31 (Nat.le_of_ble_eq_true rfl) rfl
theorem s140_33 : aW d 140 33 [l0, l1, l2, l3, .int a] S h Q = aW d 140 35 [l0, l1, l2, l3, .int a] (.int a :: S) h Q := ax_iload mt140 dX12_feed_33 rfl
theorem s140_35 : aW d 140 35 L (.int a :: S) h Q = (if a < 0 then aW d 140 75 L S h Q else aW d 140 38 L S h Q) := ax_if_lt mt140 dX12_feed_35 (by decide)
theorem s140_38 : aW d 140 38 [.ref o, l1, l2, l3, l4] S h Q = aW d 140 39 [.ref o, l1, l2, l3, l4] (.ref o :: S) h Q := ax_aload_n mt140 dX12_feed_38 rfl
theorem s140_39 (hT : gT h o = some (14, 54)) : aW d 140 39 L (.ref o :: S) h Q = (isRf (gR h o 0) = true ∧ aW d 140 42 L (gR h o 0 :: S) h Q) := ax_geta mt140 dX12_feed_39 (by decide) ft_49159 fk_49159 hT
theorem s140_42 : aW d 140 42 [.ref o, l1, l2, l3, l4] S h Q = aW d 140 43 [.ref o, l1, l2, l3, l4] (.ref o :: S) h Q := ax_aload_n mt140 dX12_feed_42 rfl
theorem s140_43 (hT : gT h o = some (14, 54)) : aW d 140 43 L (.ref o :: S) h Q = aW d 140 46 L (.int (gI h o 1) :: S) h Q := ax_geti mt140 dX12_feed_43 (by decide) ft_49281 fk_49281 hT
theorem s140_46 : aW d 140 46 [l0, .long u, .retAddr 1, l3, l4] S h Q = aW d 140 47 [l0, .long u, .retAddr 1, l3, l4] (.long u :: S) h Q := ax_lload_n mt140 dX12_feed_46 rfl rfl
theorem s140_47 : aW d 140 47 L S h Q = aW d 140 49 L (.int (nI 8) :: S) h Q := ax_bipush mt140 dX12_feed_47 bp_8
theorem s140_49 : aW d 140 49 [l0, l1, l2, l3, .int a] S h Q = aW d 140 51 [l0, l1, l2, l3, .int a] (.int a :: S) h Q := ax_iload mt140 dX12_feed_49 rfl
theorem s140_51 : aW d 140 51 L (.int b :: .int a :: S) h Q = aW d 140 52 L (.int (a * b) :: S) h Q := ax_imul mt140 dX12_feed_51
theorem s140_52 : aW d 140 52 L (.int b :: .long u :: S) h Q = aW d 140 53 L (.long (u >>> (b.toInt64 &&& 63)) :: S) h Q := ax_lshr mt140 dX12_feed_52
theorem s140_53 : aW d 140 53 L S h Q = aW d 140 56 L (.long 255 :: S) h Q := ax_ldc2_w mt140 dX12_feed_53 (by decide) lt_49285
theorem s140_56 : aW d 140 56 L (.long w :: .long u :: S) h Q = aW d 140 57 L (.long (u &&& w) :: S) h Q := ax_land mt140 dX12_feed_56
theorem s140_57 : aW d 140 57 L (.long u :: S) h Q = aW d 140 58 L (.int u.toInt32 :: S) h Q := ax_l2i mt140 dX12_feed_57
theorem s140_58 : aW d 140 58 L (.int b :: .int a :: .ref o :: S) h Q = (inb a (aJ h o) ∧ aW d 140 59 L S (pI h o a.toNatClampNeg b) Q) := ax_iast mt140 dX12_feed_58
theorem s140_59 : aW d 140 59 [.ref o, l1, l2, l3, l4] S h Q = aW d 140 60 [.ref o, l1, l2, l3, l4] (.ref o :: S) h Q := ax_aload_n mt140 dX12_feed_59 rfl
theorem s140_60 : aW d 140 60 L (.ref o :: S) h Q = aW d 140 61 L (.ref o :: .ref o :: S) h Q := ax_dupa mt140 dX12_feed_60
theorem s140_61 (hT : gT h o = some (14, 54)) : aW d 140 61 L (.ref o :: S) h Q = aW d 140 64 L (.int (gI h o 1) :: S) h Q := ax_geti mt140 dX12_feed_61 (by decide) ft_49281 fk_49281 hT
theorem s140_64 : aW d 140 64 L S h Q = aW d 140 65 L (.int (nI 1) :: S) h Q := ax_iconst mt140 dX12_feed_64 ic_1
theorem s140_65 : aW d 140 65 L (.int b :: .int a :: S) h Q = aW d 140 66 L (.int (a + b) :: S) h Q := ax_iadd mt140 dX12_feed_65
theorem s140_66 (hT : gT h o = some (14, 54)) : aW d 140 66 L (.int a :: .ref o :: S) h Q = aW d 140 69 L S (pI h o 1 a) Q := ax_puti mt140 dX12_feed_66 (by decide) ft_49281 (fun q => fn_49281 q.1) fp_49281 hT
theorem s140_69 : aW d 140 69 [l0, l1, l2, l3, .int a] S h Q = aW d 140 72 [l0, l1, l2, l3, .int (a + (-1))] S h Q := ax_iinc mt140 dX12_feed_69 rfl ic_m1 rfl
theorem s140_72 : aW d 140 72 L S h Q = aW d 140 33 L S h Q := ax_goto mt140 dX12_feed_72 (by decide)
theorem s140_75 : aW d 140 75 [.ref o, l1, l2, l3, l4] S h Q = aW d 140 76 [.ref o, l1, l2, l3, l4] (.ref o :: S) h Q := ax_aload_n mt140 dX12_feed_75 rfl
theorem s140_76 (hT : gT h o = some (14, 54)) : aW d 140 76 L (.ref o :: S) h Q = aW d 140 79 L (.int (gI h o 1) :: S) h Q := ax_geti mt140 dX12_feed_76 (by decide) ft_49281 fk_49281 hT
theorem s140_79 : aW d 140 79 L [.int a] h Q = Q (some (.int a)) h := ax_reti mt140 dX12_feed_79 rfl
-- method 141: BufferRoomModel.here()I
theorem dX12_here_0 : decode cX12_here 0 = .ok (.aload_n 0, 1) := by decide +kernel
theorem dX12_here_1 : decode cX12_here 1 = .ok (.getfield 135, 3) := by decide +kernel
theorem dX12_here_4 : decode cX12_here 4 = .ok (.aload_n 0, 1) := by decide +kernel
theorem dX12_here_5 : decode cX12_here 5 = .ok (.getfield 129, 3) := by decide +kernel
theorem dX12_here_8 : decode cX12_here 8 = .ok (.if_icmp .ge 15, 3) := by decide +kernel
theorem dX12_here_11 : decode cX12_here 11 = .ok (.aload_n 0, 1) := by decide +kernel
theorem dX12_here_12 : decode cX12_here 12 = .ok (.getfield 7, 3) := by decide +kernel
theorem dX12_here_15 : decode cX12_here 15 = .ok (.aload_n 0, 1) := by decide +kernel
theorem dX12_here_16 : decode cX12_here 16 = .ok (.getfield 135, 3) := by decide +kernel
theorem dX12_here_19 : decode cX12_here 19 = .ok (.iaload, 1) := by decide +kernel
theorem dX12_here_20 : decode cX12_here 20 = .ok (.goto 4, 3) := by decide +kernel
theorem dX12_here_23 : decode cX12_here 23 = .ok (.iconst (-1), 1) := by decide +kernel
theorem dX12_here_24 : decode cX12_here 24 = .ok (.ireturn, 1) := by decide +kernel
theorem s141_0 : aW d 141 0 [.ref o] S h Q = aW d 141 1 [.ref o] (.ref o :: S) h Q := ax_aload_n mt141 dX12_here_0 rfl
theorem s141_1 (hT : gT h o = some (14, 54)) : aW d 141 1 L (.ref o :: S) h Q = aW d 141 4 L (.int (gI h o 45) :: S) h Q := ax_geti mt141 dX12_here_1 (by decide) ft_49287 fk_49287 hT
theorem s141_4 : aW d 141 4 [.ref o] S h Q = aW d 141 5 [.ref o] (.ref o :: S) h Q := ax_aload_n mt141 dX12_here_4 rfl
theorem s141_5 (hT : gT h o = some (14, 54)) : aW d 141 5 L (.ref o :: S) h Q = aW d 141 8 L (.int (gI h o 1) :: S) h Q := ax_geti mt141 dX12_here_5 (by decide) ft_49281 fk_49281 hT
theorem s141_8 : aW d 141 8 L (.int b :: .int a :: S) h Q = (if a < b then aW d 141 11 L S h Q else aW d 141 23 L S h Q) := ax_icmp_ge mt141 dX12_here_8 (by decide)
theorem s141_11 : aW d 141 11 [.ref o] S h Q = aW d 141 12 [.ref o] (.ref o :: S) h Q := ax_aload_n mt141 dX12_here_11 rfl
theorem s141_12 (hT : gT h o = some (14, 54)) : aW d 141 12 L (.ref o :: S) h Q = (isRf (gR h o 0) = true ∧ aW d 141 15 L (gR h o 0 :: S) h Q) := ax_geta mt141 dX12_here_12 (by decide) ft_49159 fk_49159 hT
theorem s141_15 : aW d 141 15 [.ref o] S h Q = aW d 141 16 [.ref o] (.ref o :: S) h Q := ax_aload_n mt141 dX12_here_15 rfl
theorem s141_16 (hT : gT h o = some (14, 54)) : aW d 141 16 L (.ref o :: S) h Q = aW d 141 19 L (.int (gI h o 45) :: S) h Q := ax_geti mt141 dX12_here_16 (by decide) ft_49287 fk_49287 hT
theorem s141_19 : aW d 141 19 L (.int a :: .ref o :: S) h Q = (inb a (aI h o) ∧ aW d 141 20 L (.int (gI h o a.toNatClampNeg) :: S) h Q) := ax_iald mt141 dX12_here_19
theorem s141_20 : aW d 141 20 L S h Q = aW d 141 24 L S h Q := ax_goto mt141 dX12_here_20 (by decide)
theorem s141_24 : aW d 141 24 L [.int a] h Q = Q (some (.int a)) h := ax_reti mt141 dX12_here_24 rfl
theorem s141_23 : aW d 141 23 L S h Q = aW d 141 24 L (.int ((-1)) :: S) h Q := ax_iconst mt141 dX12_here_23 ic_m1
-- method 142: BufferRoomModel.number()I
theorem dX12_number_0 : decode cX12_number 0 = .ok (.iconst 0, 1) := by decide +kernel
theorem dX12_number_1 : decode cX12_number 1 = .ok (.istore_n 1, 1) := by decide +kernel
theorem dX12_number_2 : decode cX12_number 2 = .ok (.iconst 0, 1) := by decide +kernel
theorem dX12_number_3 : decode cX12_number 3 = .ok (.istore_n 2, 1) := by decide +kernel
theorem dX12_number_4 : decode cX12_number 4 = .ok (.iload_n 2, 1) := by decide +kernel
theorem dX12_number_5 : decode cX12_number 5 = .ok (.iconst 2, 1) := by decide +kernel
theorem dX12_number_6 : decode cX12_number 6 = .ok (.if_icmp .ge 46, 3) := by decide +kernel
theorem dX12_number_9 : decode cX12_number 9 = .ok (.aload_n 0, 1) := by decide +kernel
theorem dX12_number_10 : decode cX12_number 10 = .ok (.invokevirtual 138, 3) := by decide +kernel
theorem dX12_number_13 : decode cX12_number 13 = .ok (.bipush 48, 2) := by decide +kernel
theorem dX12_number_15 : decode cX12_number 15 = .ok (.bipush 57, 2) := by decide +kernel
theorem dX12_number_17 : decode cX12_number 17 = .ok (.invokestatic 125, 3) := by decide +kernel
theorem dX12_number_20 : decode cX12_number 20 = .ok (.ifCond .eq 32, 3) := by decide +kernel
theorem dX12_number_23 : decode cX12_number 23 = .ok (.bipush 10, 2) := by decide +kernel
theorem dX12_number_25 : decode cX12_number 25 = .ok (.iload_n 1, 1) := by decide +kernel
theorem dX12_number_26 : decode cX12_number 26 = .ok (.imul, 1) := by decide +kernel
theorem dX12_number_27 : decode cX12_number 27 = .ok (.aload_n 0, 1) := by decide +kernel
theorem dX12_number_28 : decode cX12_number 28 = .ok (.invokevirtual 138, 3) := by decide +kernel
theorem dX12_number_31 : decode cX12_number 31 = .ok (.iadd, 1) := by decide +kernel
theorem dX12_number_32 : decode cX12_number 32 = .ok (.bipush 48, 2) := by decide +kernel
theorem dX12_number_34 : decode cX12_number 34 = .ok (.isub, 1) := by decide +kernel
theorem dX12_number_35 : decode cX12_number 35 = .ok (.istore_n 1, 1) := by decide +kernel
theorem dX12_number_36 : decode cX12_number 36 = .ok (.iinc 2 1, 3) := by decide +kernel
theorem dX12_number_39 : decode cX12_number 39 = .ok (.aload_n 0, 1) := by decide +kernel
theorem dX12_number_40 : decode cX12_number 40 = .ok (.dup, 1) := by decide +kernel
theorem dX12_number_41 : decode cX12_number 41 = .ok (.getfield 135, 3) := by decide +kernel
theorem dX12_number_44 : decode cX12_number 44 = .ok (.iconst 1, 1) := by decide +kernel
theorem dX12_number_45 : decode cX12_number 45 = .ok (.iadd, 1) := by decide +kernel
theorem dX12_number_46 : decode cX12_number 46 = .ok (.putfield 135, 3) := by decide +kernel
theorem dX12_number_49 : decode cX12_number 49 = .ok (.goto (-45), 3) := by decide +kernel
theorem dX12_number_52 : decode cX12_number 52 = .ok (.iload_n 2, 1) := by decide +kernel
theorem dX12_number_53 : decode cX12_number 53 = .ok (.ifCond .ne 7, 3) := by decide +kernel
theorem dX12_number_56 : decode cX12_number 56 = .ok (.iconst (-1), 1) := by decide +kernel
theorem dX12_number_57 : decode cX12_number 57 = .ok (.goto 4, 3) := by decide +kernel
theorem dX12_number_60 : decode cX12_number 60 = .ok (.iload_n 1, 1) := by decide +kernel
theorem dX12_number_61 : decode cX12_number 61 = .ok (.ireturn, 1) := by decide +kernel
theorem s142_0 : aW d 142 0 L S h Q = aW d 142 1 L (.int (nI 0) :: S) h Q := ax_iconst mt142 dX12_number_0 ic_0
theorem s142_1 : aW d 142 1 [l0, l1, l2] (.int a :: S) h Q = aW d 142 2 [l0, .int a, l2] S h Q := ax_istore_n mt142 dX12_number_1 (Nat.le_of_ble_eq_true rfl) rfl
theorem s142_2 : aW d 142 2 L S h Q = aW d 142 3 L (.int (nI 0) :: S) h Q := ax_iconst mt142 dX12_number_2 ic_0
theorem s142_3 : aW d 142 3 [l0, l1, l2] (.int a :: S) h Q = aW d 142 4 [l0, l1, .int a] S h Q := ax_istore_n mt142 dX12_number_3 (Nat.le_of_ble_eq_true rfl) rfl
theorem s142_4 : aW d 142 4 [l0, l1, .int a] S h Q = aW d 142 5 [l0, l1, .int a] (.int a :: S) h Q := ax_iload_n mt142 dX12_number_4 rfl
theorem s142_5 : aW d 142 5 L S h Q = aW d 142 6 L (.int (nI 2) :: S) h Q := ax_iconst mt142 dX12_number_5 ic_2
theorem s142_6 : aW d 142 6 L (.int b :: .int a :: S) h Q = (if a < b then aW d 142 9 L S h Q else aW d 142 52 L S h Q) := ax_icmp_ge mt142 dX12_number_6 (by decide)
theorem s142_9 : aW d 142 9 [.ref o, l1, l2] S h Q = aW d 142 10 [.ref o, l1, l2] (.ref o :: S) h Q := ax_aload_n mt142 dX12_number_9 rfl
theorem s142_10 (hT : gT h o = some (14, 54)) : aW (d + 1) 142 10 L (.ref o :: []) h Q = aM d 141 (.ref o :: []) h (fun v h1 => aW (d + 1) 142 13 L (ab_ps v []) h1 Q) := ax_invv mt142 dX12_number_10 (by decide) ct_49290 (.inl rfl) mt141 ⟨⟨Nat.le_of_ble_eq_true rfl, Nat.le_of_ble_eq_true rfl, Nat.le_of_ble_eq_true rfl⟩, rfl, rfl, rfl⟩ hT
theorem s142_13 : aW d 142 13 L S h Q = aW d 142 15 L (.int (nI 48) :: S) h Q := ax_bipush mt142 dX12_number_13 bp_48
theorem s142_15 : aW d 142 15 L S h Q = aW d 142 17 L (.int (nI 57) :: S) h Q := ax_bipush mt142 dX12_number_15 bp_57
theorem s142_17 : aW (d + 1) 142 17 L (.int x2 :: .int x1 :: .int x0 :: []) h Q = aM d 139 [.int x0, .int x1, .int x2] h (fun v h1 => aW (d + 1) 142 20 L (ab_ps v []) h1 Q) := ax_invs mt142 dX12_number_17 (by decide) ct_49277 (.inl rfl) mt139 ⟨⟨Nat.le_of_ble_eq_true rfl, Nat.le_of_ble_eq_true rfl, Nat.le_of_ble_eq_true rfl⟩, rfl, rfl⟩
theorem s142_20 : aW d 142 20 L (.int a :: S) h Q = (if a = 0 then aW d 142 52 L S h Q else aW d 142 23 L S h Q) := ax_if_eq mt142 dX12_number_20 (by decide)
theorem s142_23 : aW d 142 23 L S h Q = aW d 142 25 L (.int (nI 10) :: S) h Q := ax_bipush mt142 dX12_number_23 bp_10
theorem s142_25 : aW d 142 25 [l0, .int a, l2] S h Q = aW d 142 26 [l0, .int a, l2] (.int a :: S) h Q := ax_iload_n mt142 dX12_number_25 rfl
theorem s142_26 : aW d 142 26 L (.int b :: .int a :: S) h Q = aW d 142 27 L (.int (a * b) :: S) h Q := ax_imul mt142 dX12_number_26
theorem s142_27 : aW d 142 27 [.ref o, l1, l2] S h Q = aW d 142 28 [.ref o, l1, l2] (.ref o :: S) h Q := ax_aload_n mt142 dX12_number_27 rfl
theorem s142_28 (hT : gT h o = some (14, 54)) : aW (d + 1) 142 28 L (.ref o :: [.int y0]) h Q = aM d 141 (.ref o :: []) h (fun v h1 => aW (d + 1) 142 31 L (ab_ps v [.int y0]) h1 Q) := ax_invv mt142 dX12_number_28 (by decide) ct_49290 (.inl rfl) mt141 ⟨⟨Nat.le_of_ble_eq_true rfl, Nat.le_of_ble_eq_true rfl, Nat.le_of_ble_eq_true rfl⟩, rfl, rfl, rfl⟩ hT
theorem s142_31 : aW d 142 31 L (.int b :: .int a :: S) h Q = aW d 142 32 L (.int (a + b) :: S) h Q := ax_iadd mt142 dX12_number_31
theorem s142_32 : aW d 142 32 L S h Q = aW d 142 34 L (.int (nI 48) :: S) h Q := ax_bipush mt142 dX12_number_32 bp_48
theorem s142_34 : aW d 142 34 L (.int b :: .int a :: S) h Q = aW d 142 35 L (.int (a - b) :: S) h Q := ax_isub mt142 dX12_number_34
theorem s142_35 : aW d 142 35 [l0, l1, l2] (.int a :: S) h Q = aW d 142 36 [l0, .int a, l2] S h Q := ax_istore_n mt142 dX12_number_35 (Nat.le_of_ble_eq_true rfl) rfl
theorem s142_36 : aW d 142 36 [l0, l1, .int a] S h Q = aW d 142 39 [l0, l1, .int (a + nI 1)] S h Q := ax_iinc mt142 dX12_number_36 rfl ic_1 rfl
theorem s142_39 : aW d 142 39 [.ref o, l1, l2] S h Q = aW d 142 40 [.ref o, l1, l2] (.ref o :: S) h Q := ax_aload_n mt142 dX12_number_39 rfl
theorem s142_40 : aW d 142 40 L (.ref o :: S) h Q = aW d 142 41 L (.ref o :: .ref o :: S) h Q := ax_dupa mt142 dX12_number_40
theorem s142_41 (hT : gT h o = some (14, 54)) : aW d 142 41 L (.ref o :: S) h Q = aW d 142 44 L (.int (gI h o 45) :: S) h Q := ax_geti mt142 dX12_number_41 (by decide) ft_49287 fk_49287 hT
theorem s142_44 : aW d 142 44 L S h Q = aW d 142 45 L (.int (nI 1) :: S) h Q := ax_iconst mt142 dX12_number_44 ic_1
theorem s142_45 : aW d 142 45 L (.int b :: .int a :: S) h Q = aW d 142 46 L (.int (a + b) :: S) h Q := ax_iadd mt142 dX12_number_45
theorem s142_46 (hT : gT h o = some (14, 54)) : aW d 142 46 L (.int a :: .ref o :: S) h Q = aW d 142 49 L S (pI h o 45 a) Q := ax_puti mt142 dX12_number_46 (by decide) ft_49287 (fun q => fn_49287 q.1) fp_49287 hT
theorem s142_49 : aW d 142 49 L S h Q = aW d 142 4 L S h Q := ax_goto mt142 dX12_number_49 (by decide)
theorem s142_52 : aW d 142 52 [l0, l1, .int a] S h Q = aW d 142 53 [l0, l1, .int a] (.int a :: S) h Q := ax_iload_n mt142 dX12_number_52 rfl
theorem s142_53 : aW d 142 53 L (.int a :: S) h Q = (if a = 0 then aW d 142 56 L S h Q else aW d 142 60 L S h Q) := ax_if_ne mt142 dX12_number_53 (by decide)
theorem s142_56 : aW d 142 56 L S h Q = aW d 142 57 L (.int ((-1)) :: S) h Q := ax_iconst mt142 dX12_number_56 ic_m1
theorem s142_57 : aW d 142 57 L S h Q = aW d 142 61 L S h Q := ax_goto mt142 dX12_number_57 (by decide)
theorem s142_61 : aW d 142 61 L [.int a] h Q = Q (some (.int a)) h := ax_reti mt142 dX12_number_61 rfl
theorem s142_60 : aW d 142 60 [l0, .int a, l2] S h Q = aW d 142 61 [l0, .int a, l2] (.int a :: S) h Q := ax_iload_n mt142 dX12_number_60 rfl
-- method 143: BufferRoomModel.eats(I)Z
theorem dX12_eats_0 : decode cX12_eats 0 = .ok (.aload_n 0, 1) := by decide +kernel
theorem dX12_eats_1 : decode cX12_eats 1 = .ok (.invokevirtual 138, 3) := by decide +kernel
theorem dX12_eats_4 : decode cX12_eats 4 = .ok (.iload_n 1, 1) := by decide +kernel
theorem dX12_eats_5 : decode cX12_eats 5 = .ok (.if_icmp .ne 7, 3) := by decide +kernel
theorem dX12_eats_8 : decode cX12_eats 8 = .ok (.iconst 1, 1) := by decide +kernel
theorem dX12_eats_9 : decode cX12_eats 9 = .ok (.goto 4, 3) := by decide +kernel
theorem dX12_eats_12 : decode cX12_eats 12 = .ok (.iconst 0, 1) := by decide +kernel
theorem dX12_eats_13 : decode cX12_eats 13 = .ok (.istore_n 2, 1) := by decide +kernel
theorem dX12_eats_14 : decode cX12_eats 14 = .ok (.aload_n 0, 1) := by decide +kernel
theorem dX12_eats_15 : decode cX12_eats 15 = .ok (.dup, 1) := by decide +kernel
theorem dX12_eats_16 : decode cX12_eats 16 = .ok (.getfield 135, 3) := by decide +kernel
theorem dX12_eats_19 : decode cX12_eats 19 = .ok (.iload_n 2, 1) := by decide +kernel
theorem dX12_eats_20 : decode cX12_eats 20 = .ok (.ifCond .eq 7, 3) := by decide +kernel
theorem dX12_eats_23 : decode cX12_eats 23 = .ok (.iconst 1, 1) := by decide +kernel
theorem dX12_eats_24 : decode cX12_eats 24 = .ok (.goto 4, 3) := by decide +kernel
theorem dX12_eats_27 : decode cX12_eats 27 = .ok (.iconst 0, 1) := by decide +kernel
theorem dX12_eats_28 : decode cX12_eats 28 = .ok (.iadd, 1) := by decide +kernel
theorem dX12_eats_29 : decode cX12_eats 29 = .ok (.putfield 135, 3) := by decide +kernel
theorem dX12_eats_32 : decode cX12_eats 32 = .ok (.iload_n 2, 1) := by decide +kernel
theorem dX12_eats_33 : decode cX12_eats 33 = .ok (.ireturn, 1) := by decide +kernel
theorem s143_0 : aW d 143 0 [.ref o, l1, l2] S h Q = aW d 143 1 [.ref o, l1, l2] (.ref o :: S) h Q := ax_aload_n mt143 dX12_eats_0 rfl
theorem s143_1 (hT : gT h o = some (14, 54)) : aW (d + 1) 143 1 L (.ref o :: []) h Q = aM d 141 (.ref o :: []) h (fun v h1 => aW (d + 1) 143 4 L (ab_ps v []) h1 Q) := ax_invv mt143 dX12_eats_1 (by decide) ct_49290 (.inl rfl) mt141 ⟨⟨Nat.le_of_ble_eq_true rfl, Nat.le_of_ble_eq_true rfl, Nat.le_of_ble_eq_true rfl⟩, rfl, rfl, rfl⟩ hT
theorem s143_4 : aW d 143 4 [l0, .int a, l2] S h Q = aW d 143 5 [l0, .int a, l2] (.int a :: S) h Q := ax_iload_n mt143 dX12_eats_4 rfl
theorem s143_5 : aW d 143 5 L (.int b :: .int a :: S) h Q = (if a = b then aW d 143 8 L S h Q else aW d 143 12 L S h Q) := ax_icmp_ne mt143 dX12_eats_5 (by decide)
theorem s143_8 : aW d 143 8 L S h Q = aW d 143 9 L (.int (nI 1) :: S) h Q := ax_iconst mt143 dX12_eats_8 ic_1
theorem s143_9 : aW d 143 9 L S h Q = aW d 143 13 L S h Q := ax_goto mt143 dX12_eats_9 (by decide)
theorem s143_13 : aW d 143 13 [l0, l1, l2] (.int a :: S) h Q = aW d 143 14 [l0, l1, .int a] S h Q := ax_istore_n mt143 dX12_eats_13 (Nat.le_of_ble_eq_true rfl) rfl
theorem s143_14 : aW d 143 14 [.ref o, l1, l2] S h Q = aW d 143 15 [.ref o, l1, l2] (.ref o :: S) h Q := ax_aload_n mt143 dX12_eats_14 rfl
theorem s143_15 : aW d 143 15 L (.ref o :: S) h Q = aW d 143 16 L (.ref o :: .ref o :: S) h Q := ax_dupa mt143 dX12_eats_15
theorem s143_16 (hT : gT h o = some (14, 54)) : aW d 143 16 L (.ref o :: S) h Q = aW d 143 19 L (.int (gI h o 45) :: S) h Q := ax_geti mt143 dX12_eats_16 (by decide) ft_49287 fk_49287 hT
theorem s143_19 : aW d 143 19 [l0, l1, .int a] S h Q = aW d 143 20 [l0, l1, .int a] (.int a :: S) h Q := ax_iload_n mt143 dX12_eats_19 rfl
theorem s143_20 : aW d 143 20 L (.int a :: S) h Q = (if a = 0 then aW d 143 27 L S h Q else aW d 143 23 L S h Q) := ax_if_eq mt143 dX12_eats_20 (by decide)
theorem s143_23 : aW d 143 23 L S h Q = aW d 143 24 L (.int (nI 1) :: S) h Q := ax_iconst mt143 dX12_eats_23 ic_1
theorem s143_24 : aW d 143 24 L S h Q = aW d 143 28 L S h Q := ax_goto mt143 dX12_eats_24 (by decide)
theorem s143_28 : aW d 143 28 L (.int b :: .int a :: S) h Q = aW d 143 29 L (.int (a + b) :: S) h Q := ax_iadd mt143 dX12_eats_28
theorem s143_29 (hT : gT h o = some (14, 54)) : aW d 143 29 L (.int a :: .ref o :: S) h Q = aW d 143 32 L S (pI h o 45 a) Q := ax_puti mt143 dX12_eats_29 (by decide) ft_49287 (fun q => fn_49287 q.1) fp_49287 hT
theorem s143_32 : aW d 143 32 [l0, l1, .int a] S h Q = aW d 143 33 [l0, l1, .int a] (.int a :: S) h Q := ax_iload_n mt143 dX12_eats_32 rfl
theorem s143_33 : aW d 143 33 L [.int a] h Q = (b01 a ∧ Q (some (.int a)) h) := ax_retz mt143 dX12_eats_33 rfl
theorem s143_27 : aW d 143 27 L S h Q = aW d 143 28 L (.int (nI 0) :: S) h Q := ax_iconst mt143 dX12_eats_27 ic_0
theorem s143_12 : aW d 143 12 L S h Q = aW d 143 13 L (.int (nI 0) :: S) h Q := ax_iconst mt143 dX12_eats_12 ic_0
-- method 144: BufferRoomModel.readsSize(I)Z
theorem dX12_readsSize_0 : decode cX12_readsSize 0 = .ok (.iconst 0, 1) := by decide +kernel
theorem dX12_readsSize_1 : decode cX12_readsSize 1 = .ok (.istore_n 2, 1) := by decide +kernel
theorem dX12_readsSize_2 : decode cX12_readsSize 2 = .ok (.iconst 1, 1) := by decide +kernel
theorem dX12_readsSize_3 : decode cX12_readsSize 3 = .ok (.istore_n 3, 1) := by decide +kernel
theorem dX12_readsSize_4 : decode cX12_readsSize 4 = .ok (.iload_n 3, 1) := by decide +kernel
theorem dX12_readsSize_5 : decode cX12_readsSize 5 = .ok (.ifCond .eq 114, 3) := by decide +kernel
theorem dX12_readsSize_8 : decode cX12_readsSize 8 = .ok (.iload_n 2, 1) := by decide +kernel
theorem dX12_readsSize_9 : decode cX12_readsSize 9 = .ok (.iconst 4, 1) := by decide +kernel
theorem dX12_readsSize_10 : decode cX12_readsSize 10 = .ok (.if_icmp .ge 10, 3) := by decide +kernel
theorem dX12_readsSize_13 : decode cX12_readsSize 13 = .ok (.aload_n 0, 1) := by decide +kernel
theorem dX12_readsSize_14 : decode cX12_readsSize 14 = .ok (.invokevirtual 142, 3) := by decide +kernel
theorem dX12_readsSize_17 : decode cX12_readsSize 17 = .ok (.goto 4, 3) := by decide +kernel
theorem dX12_readsSize_20 : decode cX12_readsSize 20 = .ok (.iconst (-1), 1) := by decide +kernel
theorem dX12_readsSize_21 : decode cX12_readsSize 21 = .ok (.istore 4, 2) := by decide +kernel
theorem dX12_readsSize_23 : decode cX12_readsSize 23 = .ok (.iload 4, 2) := by decide +kernel
theorem dX12_readsSize_25 : decode cX12_readsSize 25 = .ok (.iconst (-1), 1) := by decide +kernel
theorem dX12_readsSize_26 : decode cX12_readsSize 26 = .ok (.if_icmp .ne 5, 3) := by decide +kernel
theorem dX12_readsSize_29 : decode cX12_readsSize 29 = .ok (.iconst 0, 1) := by decide +kernel
theorem dX12_readsSize_30 : decode cX12_readsSize 30 = .ok (.ireturn, 1) := by decide +kernel
theorem dX12_readsSize_31 : decode cX12_readsSize 31 = .ok (.aload_n 0, 1) := by decide +kernel
theorem dX12_readsSize_32 : decode cX12_readsSize 32 = .ok (.getfield 53, 3) := by decide +kernel
theorem dX12_readsSize_35 : decode cX12_readsSize 35 = .ok (.iconst 4, 1) := by decide +kernel
theorem dX12_readsSize_36 : decode cX12_readsSize 36 = .ok (.iload_n 1, 1) := by decide +kernel
theorem dX12_readsSize_37 : decode cX12_readsSize 37 = .ok (.imul, 1) := by decide +kernel
theorem dX12_readsSize_38 : decode cX12_readsSize 38 = .ok (.iload_n 2, 1) := by decide +kernel
theorem dX12_readsSize_39 : decode cX12_readsSize 39 = .ok (.iadd, 1) := by decide +kernel
theorem dX12_readsSize_40 : decode cX12_readsSize 40 = .ok (.iload 4, 2) := by decide +kernel
theorem dX12_readsSize_42 : decode cX12_readsSize 42 = .ok (.iastore, 1) := by decide +kernel
theorem dX12_readsSize_43 : decode cX12_readsSize 43 = .ok (.aload_n 0, 1) := by decide +kernel
theorem dX12_readsSize_44 : decode cX12_readsSize 44 = .ok (.getfield 56, 3) := by decide +kernel
theorem dX12_readsSize_47 : decode cX12_readsSize 47 = .ok (.iconst 4, 1) := by decide +kernel
theorem dX12_readsSize_48 : decode cX12_readsSize 48 = .ok (.iload_n 1, 1) := by decide +kernel
theorem dX12_readsSize_49 : decode cX12_readsSize 49 = .ok (.imul, 1) := by decide +kernel
theorem dX12_readsSize_50 : decode cX12_readsSize 50 = .ok (.iload_n 2, 1) := by decide +kernel
theorem dX12_readsSize_51 : decode cX12_readsSize 51 = .ok (.iadd, 1) := by decide +kernel
theorem dX12_readsSize_52 : decode cX12_readsSize 52 = .ok (.aload_n 0, 1) := by decide +kernel
theorem dX12_readsSize_53 : decode cX12_readsSize 53 = .ok (.invokevirtual 138, 3) := by decide +kernel
theorem dX12_readsSize_56 : decode cX12_readsSize 56 = .ok (.bipush 65, 2) := by decide +kernel
theorem dX12_readsSize_58 : decode cX12_readsSize 58 = .ok (.bipush 68, 2) := by decide +kernel
theorem dX12_readsSize_60 : decode cX12_readsSize 60 = .ok (.invokestatic 125, 3) := by decide +kernel
theorem dX12_readsSize_63 : decode cX12_readsSize 63 = .ok (.ifCond .eq 13, 3) := by decide +kernel
theorem dX12_readsSize_66 : decode cX12_readsSize 66 = .ok (.aload_n 0, 1) := by decide +kernel
theorem dX12_readsSize_67 : decode cX12_readsSize 67 = .ok (.invokevirtual 138, 3) := by decide +kernel
theorem dX12_readsSize_70 : decode cX12_readsSize 70 = .ok (.bipush 65, 2) := by decide +kernel
theorem dX12_readsSize_72 : decode cX12_readsSize 72 = .ok (.isub, 1) := by decide +kernel
theorem dX12_readsSize_73 : decode cX12_readsSize 73 = .ok (.goto 4, 3) := by decide +kernel
theorem dX12_readsSize_76 : decode cX12_readsSize 76 = .ok (.iconst (-1), 1) := by decide +kernel
theorem dX12_readsSize_77 : decode cX12_readsSize 77 = .ok (.iastore, 1) := by decide +kernel
theorem dX12_readsSize_78 : decode cX12_readsSize 78 = .ok (.aload_n 0, 1) := by decide +kernel
theorem dX12_readsSize_79 : decode cX12_readsSize 79 = .ok (.dup, 1) := by decide +kernel
theorem dX12_readsSize_80 : decode cX12_readsSize 80 = .ok (.getfield 135, 3) := by decide +kernel
theorem dX12_readsSize_83 : decode cX12_readsSize 83 = .ok (.aload_n 0, 1) := by decide +kernel
theorem dX12_readsSize_84 : decode cX12_readsSize 84 = .ok (.invokevirtual 138, 3) := by decide +kernel
theorem dX12_readsSize_87 : decode cX12_readsSize 87 = .ok (.bipush 65, 2) := by decide +kernel
theorem dX12_readsSize_89 : decode cX12_readsSize 89 = .ok (.bipush 68, 2) := by decide +kernel
theorem dX12_readsSize_91 : decode cX12_readsSize 91 = .ok (.invokestatic 125, 3) := by decide +kernel
theorem dX12_readsSize_94 : decode cX12_readsSize 94 = .ok (.ifCond .eq 7, 3) := by decide +kernel
theorem dX12_readsSize_97 : decode cX12_readsSize 97 = .ok (.iconst 1, 1) := by decide +kernel
theorem dX12_readsSize_98 : decode cX12_readsSize 98 = .ok (.goto 4, 3) := by decide +kernel
theorem dX12_readsSize_101 : decode cX12_readsSize 101 = .ok (.iconst 0, 1) := by decide +kernel
theorem dX12_readsSize_102 : decode cX12_readsSize 102 = .ok (.iadd, 1) := by decide +kernel
theorem dX12_readsSize_103 : decode cX12_readsSize 103 = .ok (.putfield 135, 3) := by decide +kernel
theorem dX12_readsSize_106 : decode cX12_readsSize 106 = .ok (.iinc 2 1, 3) := by decide +kernel
theorem dX12_readsSize_109 : decode cX12_readsSize 109 = .ok (.aload_n 0, 1) := by decide +kernel
theorem dX12_readsSize_110 : decode cX12_readsSize 110 = .ok (.bipush 43, 2) := by decide +kernel
theorem dX12_readsSize_112 : decode cX12_readsSize 112 = .ok (.invokevirtual 145, 3) := by decide +kernel
theorem dX12_readsSize_115 : decode cX12_readsSize 115 = .ok (.istore_n 3, 1) := by decide +kernel
theorem dX12_readsSize_116 : decode cX12_readsSize 116 = .ok (.goto (-112), 3) := by decide +kernel
theorem dX12_readsSize_119 : decode cX12_readsSize 119 = .ok (.aload_n 0, 1) := by decide +kernel
theorem dX12_readsSize_120 : decode cX12_readsSize 120 = .ok (.getfield 50, 3) := by decide +kernel
theorem dX12_readsSize_123 : decode cX12_readsSize 123 = .ok (.iload_n 1, 1) := by decide +kernel
theorem dX12_readsSize_124 : decode cX12_readsSize 124 = .ok (.iload_n 2, 1) := by decide +kernel
theorem dX12_readsSize_125 : decode cX12_readsSize 125 = .ok (.iastore, 1) := by decide +kernel
theorem dX12_readsSize_126 : decode cX12_readsSize 126 = .ok (.aload_n 0, 1) := by decide +kernel
theorem dX12_readsSize_127 : decode cX12_readsSize 127 = .ok (.getfield 47, 3) := by decide +kernel
theorem dX12_readsSize_130 : decode cX12_readsSize 130 = .ok (.iload_n 1, 1) := by decide +kernel
theorem dX12_readsSize_131 : decode cX12_readsSize 131 = .ok (.iconst 1, 1) := by decide +kernel
theorem dX12_readsSize_132 : decode cX12_readsSize 132 = .ok (.bastore, 1) := by decide +kernel
theorem dX12_readsSize_133 : decode cX12_readsSize 133 = .ok (.aload_n 0, 1) := by decide +kernel
theorem dX12_readsSize_134 : decode cX12_readsSize 134 = .ok (.getfield 59, 3) := by decide +kernel
theorem dX12_readsSize_137 : decode cX12_readsSize 137 = .ok (.iload_n 1, 1) := by decide +kernel
theorem dX12_readsSize_138 : decode cX12_readsSize 138 = .ok (.iconst 0, 1) := by decide +kernel
theorem dX12_readsSize_139 : decode cX12_readsSize 139 = .ok (.bastore, 1) := by decide +kernel
theorem dX12_readsSize_140 : decode cX12_readsSize 140 = .ok (.iconst 1, 1) := by decide +kernel
theorem dX12_readsSize_141 : decode cX12_readsSize 141 = .ok (.ireturn, 1) := by decide +kernel
theorem s144_0 : aW d 144 0 L S h Q = aW d 144 1 L (.int (nI 0) :: S) h Q := ax_iconst mt144 dX12_readsSize_0 ic_0
theorem s144_1 : aW d 144 1 [l0, l1, l2, l3, l4] (.int a :: S) h Q = aW d 144 2 [l0, l1, .int a, l3, l4] S h Q := ax_istore_n mt144 dX12_readsSize_1 (Nat.le_of_ble_eq_true rfl) rfl
theorem s144_2 : aW d 144 2 L S h Q = aW d 144 3 L (.int (nI 1) :: S) h Q := ax_iconst mt144 dX12_readsSize_2 ic_1
theorem s144_3 : aW d 144 3 [l0, l1, l2, l3, l4] (.int a :: S) h Q = aW d 144 4 [l0, l1, l2, .int a, l4] S h Q := ax_istore_n mt144 dX12_readsSize_3 (Nat.le_of_ble_eq_true rfl) rfl
theorem s144_4 : aW d 144 4 [l0, l1, l2, .int a, l4] S h Q = aW d 144 5 [l0, l1, l2, .int a, l4] (.int a :: S) h Q := ax_iload_n mt144 dX12_readsSize_4 rfl
theorem s144_5 : aW d 144 5 L (.int a :: S) h Q = (if a = 0 then aW d 144 119 L S h Q else aW d 144 8 L S h Q) := ax_if_eq mt144 dX12_readsSize_5 (by decide)
theorem s144_8 : aW d 144 8 [l0, l1, .int a, l3, l4] S h Q = aW d 144 9 [l0, l1, .int a, l3, l4] (.int a :: S) h Q := ax_iload_n mt144 dX12_readsSize_8 rfl
theorem s144_9 : aW d 144 9 L S h Q = aW d 144 10 L (.int (nI 4) :: S) h Q := ax_iconst mt144 dX12_readsSize_9 ic_4
theorem s144_10 : aW d 144 10 L (.int b :: .int a :: S) h Q = (if a < b then aW d 144 13 L S h Q else aW d 144 20 L S h Q) := ax_icmp_ge mt144 dX12_readsSize_10 (by decide)
theorem s144_13 : aW d 144 13 [.ref o, l1, l2, l3, l4] S h Q = aW d 144 14 [.ref o, l1, l2, l3, l4] (.ref o :: S) h Q := ax_aload_n mt144 dX12_readsSize_13 rfl
theorem s144_14 (hT : gT h o = some (14, 54)) : aW (d + 1) 144 14 L (.ref o :: []) h Q = aM d 142 (.ref o :: []) h (fun v h1 => aW (d + 1) 144 17 L (ab_ps v []) h1 Q) := ax_invv mt144 dX12_readsSize_14 (by decide) ct_49294 (.inl rfl) mt142 ⟨⟨Nat.le_of_ble_eq_true rfl, Nat.le_of_ble_eq_true rfl, Nat.le_of_ble_eq_true rfl⟩, rfl, rfl, rfl⟩ hT
theorem s144_17 : aW d 144 17 L S h Q = aW d 144 21 L S h Q := ax_goto mt144 dX12_readsSize_17 (by decide)
theorem s144_21 : aW d 144 21 [l0, l1, l2, l3, l4] (.int a :: S) h Q = aW d 144 23 [l0, l1, l2, l3, .int a] S h Q := ax_istore mt144 dX12_readsSize_21 (Nat.le_of_ble_eq_true rfl) rfl
theorem s144_23 : aW d 144 23 [l0, l1, l2, l3, .int a] S h Q = aW d 144 25 [l0, l1, l2, l3, .int a] (.int a :: S) h Q := ax_iload mt144 dX12_readsSize_23 rfl
theorem s144_25 : aW d 144 25 L S h Q = aW d 144 26 L (.int ((-1)) :: S) h Q := ax_iconst mt144 dX12_readsSize_25 ic_m1
theorem s144_26 : aW d 144 26 L (.int b :: .int a :: S) h Q = (if a = b then aW d 144 29 L S h Q else aW d 144 31 L S h Q) := ax_icmp_ne mt144 dX12_readsSize_26 (by decide)
theorem s144_29 : aW d 144 29 L S h Q = aW d 144 30 L (.int (nI 0) :: S) h Q := ax_iconst mt144 dX12_readsSize_29 ic_0
theorem s144_30 : aW d 144 30 L [.int a] h Q = (b01 a ∧ Q (some (.int a)) h) := ax_retz mt144 dX12_readsSize_30 rfl
theorem s144_31 : aW d 144 31 [.ref o, l1, l2, l3, l4] S h Q = aW d 144 32 [.ref o, l1, l2, l3, l4] (.ref o :: S) h Q := ax_aload_n mt144 dX12_readsSize_31 rfl
theorem s144_32 (hT : gT h o = some (14, 54)) : aW d 144 32 L (.ref o :: S) h Q = (isRf (gR h o 18) = true ∧ aW d 144 35 L (gR h o 18 :: S) h Q) := ax_geta mt144 dX12_readsSize_32 (by decide) ft_49205 fk_49205 hT
theorem s144_35 : aW d 144 35 L S h Q = aW d 144 36 L (.int (nI 4) :: S) h Q := ax_iconst mt144 dX12_readsSize_35 ic_4
theorem s144_36 : aW d 144 36 [l0, .int a, l2, l3, l4] S h Q = aW d 144 37 [l0, .int a, l2, l3, l4] (.int a :: S) h Q := ax_iload_n mt144 dX12_readsSize_36 rfl
theorem s144_37 : aW d 144 37 L (.int b :: .int a :: S) h Q = aW d 144 38 L (.int (a * b) :: S) h Q := ax_imul mt144 dX12_readsSize_37
theorem s144_38 : aW d 144 38 [l0, l1, .int a, l3, l4] S h Q = aW d 144 39 [l0, l1, .int a, l3, l4] (.int a :: S) h Q := ax_iload_n mt144 dX12_readsSize_38 rfl
theorem s144_39 : aW d 144 39 L (.int b :: .int a :: S) h Q = aW d 144 40 L (.int (a + b) :: S) h Q := ax_iadd mt144 dX12_readsSize_39
theorem s144_40 : aW d 144 40 [l0, l1, l2, l3, .int a] S h Q = aW d 144 42 [l0, l1, l2, l3, .int a] (.int a :: S) h Q := ax_iload mt144 dX12_readsSize_40 rfl
theorem s144_42 : aW d 144 42 L (.int b :: .int a :: .ref o :: S) h Q = (inb a (aJ h o) ∧ aW d 144 43 L S (pI h o a.toNatClampNeg b) Q) := ax_iast mt144 dX12_readsSize_42
theorem s144_43 : aW d 144 43 [.ref o, l1, l2, l3, l4] S h Q = aW d 144 44 [.ref o, l1, l2, l3, l4] (.ref o :: S) h Q := ax_aload_n mt144 dX12_readsSize_43 rfl
theorem s144_44 (hT : gT h o = some (14, 54)) : aW d 144 44 L (.ref o :: S) h Q = (isRf (gR h o 19) = true ∧ aW d 144 47 L (gR h o 19 :: S) h Q) := ax_geta mt144 dX12_readsSize_44 (by decide) ft_49208 fk_49208 hT
theorem s144_47 : aW d 144 47 L S h Q = aW d 144 48 L (.int (nI 4) :: S) h Q := ax_iconst mt144 dX12_readsSize_47 ic_4
theorem s144_48 : aW d 144 48 [l0, .int a, l2, l3, l4] S h Q = aW d 144 49 [l0, .int a, l2, l3, l4] (.int a :: S) h Q := ax_iload_n mt144 dX12_readsSize_48 rfl
theorem s144_49 : aW d 144 49 L (.int b :: .int a :: S) h Q = aW d 144 50 L (.int (a * b) :: S) h Q := ax_imul mt144 dX12_readsSize_49
theorem s144_50 : aW d 144 50 [l0, l1, .int a, l3, l4] S h Q = aW d 144 51 [l0, l1, .int a, l3, l4] (.int a :: S) h Q := ax_iload_n mt144 dX12_readsSize_50 rfl
theorem s144_51 : aW d 144 51 L (.int b :: .int a :: S) h Q = aW d 144 52 L (.int (a + b) :: S) h Q := ax_iadd mt144 dX12_readsSize_51
theorem s144_52 : aW d 144 52 [.ref o, l1, l2, l3, l4] S h Q = aW d 144 53 [.ref o, l1, l2, l3, l4] (.ref o :: S) h Q := ax_aload_n mt144 dX12_readsSize_52 rfl
theorem s144_53 (hT : gT h o = some (14, 54)) : aW (d + 1) 144 53 L (.ref o :: [.int y0, .ref q1]) h Q = aM d 141 (.ref o :: []) h (fun v h1 => aW (d + 1) 144 56 L (ab_ps v [.int y0, .ref q1]) h1 Q) := ax_invv mt144 dX12_readsSize_53 (by decide) ct_49290 (.inl rfl) mt141 ⟨⟨Nat.le_of_ble_eq_true rfl, Nat.le_of_ble_eq_true rfl, Nat.le_of_ble_eq_true rfl⟩, rfl, rfl, rfl⟩ hT
theorem s144_56 : aW d 144 56 L S h Q = aW d 144 58 L (.int (nI 65) :: S) h Q := ax_bipush mt144 dX12_readsSize_56 bp_65
theorem s144_58 : aW d 144 58 L S h Q = aW d 144 60 L (.int (nI 68) :: S) h Q := ax_bipush mt144 dX12_readsSize_58 bp_68
theorem s144_60 : aW (d + 1) 144 60 L (.int x2 :: .int x1 :: .int x0 :: [.int y0, .ref q1]) h Q = aM d 139 [.int x0, .int x1, .int x2] h (fun v h1 => aW (d + 1) 144 63 L (ab_ps v [.int y0, .ref q1]) h1 Q) := ax_invs mt144 dX12_readsSize_60 (by decide) ct_49277 (.inl rfl) mt139 ⟨⟨Nat.le_of_ble_eq_true rfl, Nat.le_of_ble_eq_true rfl, Nat.le_of_ble_eq_true rfl⟩, rfl, rfl⟩
theorem s144_63 : aW d 144 63 L (.int a :: S) h Q = (if a = 0 then aW d 144 76 L S h Q else aW d 144 66 L S h Q) := ax_if_eq mt144 dX12_readsSize_63 (by decide)
theorem s144_66 : aW d 144 66 [.ref o, l1, l2, l3, l4] S h Q = aW d 144 67 [.ref o, l1, l2, l3, l4] (.ref o :: S) h Q := ax_aload_n mt144 dX12_readsSize_66 rfl
theorem s144_67 (hT : gT h o = some (14, 54)) : aW (d + 1) 144 67 L (.ref o :: [.int y0, .ref q1]) h Q = aM d 141 (.ref o :: []) h (fun v h1 => aW (d + 1) 144 70 L (ab_ps v [.int y0, .ref q1]) h1 Q) := ax_invv mt144 dX12_readsSize_67 (by decide) ct_49290 (.inl rfl) mt141 ⟨⟨Nat.le_of_ble_eq_true rfl, Nat.le_of_ble_eq_true rfl, Nat.le_of_ble_eq_true rfl⟩, rfl, rfl, rfl⟩ hT
theorem s144_70 : aW d 144 70 L S h Q = aW d 144 72 L (.int (nI 65) :: S) h Q := ax_bipush mt144 dX12_readsSize_70 bp_65
theorem s144_72 : aW d 144 72 L (.int b :: .int a :: S) h Q = aW d 144 73 L (.int (a - b) :: S) h Q := ax_isub mt144 dX12_readsSize_72
theorem s144_73 : aW d 144 73 L S h Q = aW d 144 77 L S h Q := ax_goto mt144 dX12_readsSize_73 (by decide)
theorem s144_77 : aW d 144 77 L (.int b :: .int a :: .ref o :: S) h Q = (inb a (aJ h o) ∧ aW d 144 78 L S (pI h o a.toNatClampNeg b) Q) := ax_iast mt144 dX12_readsSize_77
theorem s144_78 : aW d 144 78 [.ref o, l1, l2, l3, l4] S h Q = aW d 144 79 [.ref o, l1, l2, l3, l4] (.ref o :: S) h Q := ax_aload_n mt144 dX12_readsSize_78 rfl
theorem s144_79 : aW d 144 79 L (.ref o :: S) h Q = aW d 144 80 L (.ref o :: .ref o :: S) h Q := ax_dupa mt144 dX12_readsSize_79
theorem s144_80 (hT : gT h o = some (14, 54)) : aW d 144 80 L (.ref o :: S) h Q = aW d 144 83 L (.int (gI h o 45) :: S) h Q := ax_geti mt144 dX12_readsSize_80 (by decide) ft_49287 fk_49287 hT
theorem s144_83 : aW d 144 83 [.ref o, l1, l2, l3, l4] S h Q = aW d 144 84 [.ref o, l1, l2, l3, l4] (.ref o :: S) h Q := ax_aload_n mt144 dX12_readsSize_83 rfl
theorem s144_84 (hT : gT h o = some (14, 54)) : aW (d + 1) 144 84 L (.ref o :: [.int y0, .ref q1]) h Q = aM d 141 (.ref o :: []) h (fun v h1 => aW (d + 1) 144 87 L (ab_ps v [.int y0, .ref q1]) h1 Q) := ax_invv mt144 dX12_readsSize_84 (by decide) ct_49290 (.inl rfl) mt141 ⟨⟨Nat.le_of_ble_eq_true rfl, Nat.le_of_ble_eq_true rfl, Nat.le_of_ble_eq_true rfl⟩, rfl, rfl, rfl⟩ hT
theorem s144_87 : aW d 144 87 L S h Q = aW d 144 89 L (.int (nI 65) :: S) h Q := ax_bipush mt144 dX12_readsSize_87 bp_65
theorem s144_89 : aW d 144 89 L S h Q = aW d 144 91 L (.int (nI 68) :: S) h Q := ax_bipush mt144 dX12_readsSize_89 bp_68
theorem s144_91 : aW (d + 1) 144 91 L (.int x2 :: .int x1 :: .int x0 :: [.int y0, .ref q1]) h Q = aM d 139 [.int x0, .int x1, .int x2] h (fun v h1 => aW (d + 1) 144 94 L (ab_ps v [.int y0, .ref q1]) h1 Q) := ax_invs mt144 dX12_readsSize_91 (by decide) ct_49277 (.inl rfl) mt139 ⟨⟨Nat.le_of_ble_eq_true rfl, Nat.le_of_ble_eq_true rfl, Nat.le_of_ble_eq_true rfl⟩, rfl, rfl⟩
theorem s144_94 : aW d 144 94 L (.int a :: S) h Q = (if a = 0 then aW d 144 101 L S h Q else aW d 144 97 L S h Q) := ax_if_eq mt144 dX12_readsSize_94 (by decide)
theorem s144_97 : aW d 144 97 L S h Q = aW d 144 98 L (.int (nI 1) :: S) h Q := ax_iconst mt144 dX12_readsSize_97 ic_1
theorem s144_98 : aW d 144 98 L S h Q = aW d 144 102 L S h Q := ax_goto mt144 dX12_readsSize_98 (by decide)
theorem s144_102 : aW d 144 102 L (.int b :: .int a :: S) h Q = aW d 144 103 L (.int (a + b) :: S) h Q := ax_iadd mt144 dX12_readsSize_102
theorem s144_103 (hT : gT h o = some (14, 54)) : aW d 144 103 L (.int a :: .ref o :: S) h Q = aW d 144 106 L S (pI h o 45 a) Q := ax_puti mt144 dX12_readsSize_103 (by decide) ft_49287 (fun q => fn_49287 q.1) fp_49287 hT
theorem s144_106 : aW d 144 106 [l0, l1, .int a, l3, l4] S h Q = aW d 144 109 [l0, l1, .int (a + nI 1), l3, l4] S h Q := ax_iinc mt144 dX12_readsSize_106 rfl ic_1 rfl
theorem s144_109 : aW d 144 109 [.ref o, l1, l2, l3, l4] S h Q = aW d 144 110 [.ref o, l1, l2, l3, l4] (.ref o :: S) h Q := ax_aload_n mt144 dX12_readsSize_109 rfl
theorem s144_110 : aW d 144 110 L S h Q = aW d 144 112 L (.int (nI 43) :: S) h Q := ax_bipush mt144 dX12_readsSize_110 bp_43
theorem s144_112 (hT : gT h o = some (14, 54)) : aW (d + 1) 144 112 L (.int x0 :: .ref o :: []) h Q = aM d 143 (.ref o :: [.int x0]) h (fun v h1 => aW (d + 1) 144 115 L (ab_ps v []) h1 Q) := ax_invv mt144 dX12_readsSize_112 (by decide) ct_49297 (.inl rfl) mt143 ⟨⟨Nat.le_of_ble_eq_true rfl, Nat.le_of_ble_eq_true rfl, Nat.le_of_ble_eq_true rfl⟩, rfl, rfl, rfl⟩ hT
theorem s144_115 : aW d 144 115 [l0, l1, l2, l3, l4] (.int a :: S) h Q = aW d 144 116 [l0, l1, l2, .int a, l4] S h Q := ax_istore_n mt144 dX12_readsSize_115 (Nat.le_of_ble_eq_true rfl) rfl
theorem s144_116 : aW d 144 116 L S h Q = aW d 144 4 L S h Q := ax_goto mt144 dX12_readsSize_116 (by decide)
theorem s144_101 : aW d 144 101 L S h Q = aW d 144 102 L (.int (nI 0) :: S) h Q := ax_iconst mt144 dX12_readsSize_101 ic_0
theorem s144_76 : aW d 144 76 L S h Q = aW d 144 77 L (.int ((-1)) :: S) h Q := ax_iconst mt144 dX12_readsSize_76 ic_m1
theorem s144_20 : aW d 144 20 L S h Q = aW d 144 21 L (.int ((-1)) :: S) h Q := ax_iconst mt144 dX12_readsSize_20 ic_m1
theorem s144_119 : aW d 144 119 [.ref o, l1, l2, l3, l4] S h Q = aW d 144 120 [.ref o, l1, l2, l3, l4] (.ref o :: S) h Q := ax_aload_n mt144 dX12_readsSize_119 rfl
theorem s144_120 (hT : gT h o = some (14, 54)) : aW d 144 120 L (.ref o :: S) h Q = (isRf (gR h o 17) = true ∧ aW d 144 123 L (gR h o 17 :: S) h Q) := ax_geta mt144 dX12_readsSize_120 (by decide) ft_49202 fk_49202 hT
theorem s144_123 : aW d 144 123 [l0, .int a, l2, l3, l4] S h Q = aW d 144 124 [l0, .int a, l2, l3, l4] (.int a :: S) h Q := ax_iload_n mt144 dX12_readsSize_123 rfl
theorem s144_124 : aW d 144 124 [l0, l1, .int a, l3, l4] S h Q = aW d 144 125 [l0, l1, .int a, l3, l4] (.int a :: S) h Q := ax_iload_n mt144 dX12_readsSize_124 rfl
theorem s144_125 : aW d 144 125 L (.int b :: .int a :: .ref o :: S) h Q = (inb a (aJ h o) ∧ aW d 144 126 L S (pI h o a.toNatClampNeg b) Q) := ax_iast mt144 dX12_readsSize_125
theorem s144_126 : aW d 144 126 [.ref o, l1, l2, l3, l4] S h Q = aW d 144 127 [.ref o, l1, l2, l3, l4] (.ref o :: S) h Q := ax_aload_n mt144 dX12_readsSize_126 rfl
theorem s144_127 (hT : gT h o = some (14, 54)) : aW d 144 127 L (.ref o :: S) h Q = (isRf (gR h o 16) = true ∧ aW d 144 130 L (gR h o 16 :: S) h Q) := ax_geta mt144 dX12_readsSize_127 (by decide) ft_49199 fk_49199 hT
theorem s144_130 : aW d 144 130 [l0, .int a, l2, l3, l4] S h Q = aW d 144 131 [l0, .int a, l2, l3, l4] (.int a :: S) h Q := ax_iload_n mt144 dX12_readsSize_130 rfl
theorem s144_131 : aW d 144 131 L S h Q = aW d 144 132 L (.int (nI 1) :: S) h Q := ax_iconst mt144 dX12_readsSize_131 ic_1
theorem s144_132 : aW d 144 132 L (.int b :: .int a :: .ref o :: S) h Q = ((inb a (aZ h o) ∧ b01 b) ∧ aW d 144 133 L S (pI h o a.toNatClampNeg b) Q) := ax_zast mt144 dX12_readsSize_132
theorem s144_133 : aW d 144 133 [.ref o, l1, l2, l3, l4] S h Q = aW d 144 134 [.ref o, l1, l2, l3, l4] (.ref o :: S) h Q := ax_aload_n mt144 dX12_readsSize_133 rfl
theorem s144_134 (hT : gT h o = some (14, 54)) : aW d 144 134 L (.ref o :: S) h Q = (isRf (gR h o 20) = true ∧ aW d 144 137 L (gR h o 20 :: S) h Q) := ax_geta mt144 dX12_readsSize_134 (by decide) ft_49211 fk_49211 hT
theorem s144_137 : aW d 144 137 [l0, .int a, l2, l3, l4] S h Q = aW d 144 138 [l0, .int a, l2, l3, l4] (.int a :: S) h Q := ax_iload_n mt144 dX12_readsSize_137 rfl
theorem s144_138 : aW d 144 138 L S h Q = aW d 144 139 L (.int (nI 0) :: S) h Q := ax_iconst mt144 dX12_readsSize_138 ic_0
theorem s144_139 : aW d 144 139 L (.int b :: .int a :: .ref o :: S) h Q = ((inb a (aZ h o) ∧ b01 b) ∧ aW d 144 140 L S (pI h o a.toNatClampNeg b) Q) := ax_zast mt144 dX12_readsSize_139
theorem s144_140 : aW d 144 140 L S h Q = aW d 144 141 L (.int (nI 1) :: S) h Q := ax_iconst mt144 dX12_readsSize_140 ic_1
theorem s144_141 : aW d 144 141 L [.int a] h Q = (b01 a ∧ Q (some (.int a)) h) := ax_retz mt144 dX12_readsSize_141 rfl
-- method 145: BufferRoomModel.isWritten(I)Z
theorem dX12_isWritten_0 : decode cX12_isWritten 0 = .ok (.iconst 0, 1) := by decide +kernel
theorem dX12_isWritten_1 : decode cX12_isWritten 1 = .ok (.istore_n 2, 1) := by decide +kernel
theorem dX12_isWritten_2 : decode cX12_isWritten 2 = .ok (.iload_n 2, 1) := by decide +kernel
theorem dX12_isWritten_3 : decode cX12_isWritten 3 = .ok (.aload_n 0, 1) := by decide +kernel
theorem dX12_isWritten_4 : decode cX12_isWritten 4 = .ok (.getfield 149, 3) := by decide +kernel
theorem dX12_isWritten_7 : decode cX12_isWritten 7 = .ok (.if_icmp .ge 21, 3) := by decide +kernel
theorem dX12_isWritten_10 : decode cX12_isWritten 10 = .ok (.aload_n 0, 1) := by decide +kernel
theorem dX12_isWritten_11 : decode cX12_isWritten 11 = .ok (.getfield 68, 3) := by decide +kernel
theorem dX12_isWritten_14 : decode cX12_isWritten 14 = .ok (.iload_n 2, 1) := by decide +kernel
theorem dX12_isWritten_15 : decode cX12_isWritten 15 = .ok (.iaload, 1) := by decide +kernel
theorem dX12_isWritten_16 : decode cX12_isWritten 16 = .ok (.iload_n 1, 1) := by decide +kernel
theorem dX12_isWritten_17 : decode cX12_isWritten 17 = .ok (.if_icmp .ne 5, 3) := by decide +kernel
theorem dX12_isWritten_20 : decode cX12_isWritten 20 = .ok (.iconst 1, 1) := by decide +kernel
theorem dX12_isWritten_21 : decode cX12_isWritten 21 = .ok (.ireturn, 1) := by decide +kernel
theorem dX12_isWritten_22 : decode cX12_isWritten 22 = .ok (.iinc 2 1, 3) := by decide +kernel
theorem dX12_isWritten_25 : decode cX12_isWritten 25 = .ok (.goto (-23), 3) := by decide +kernel
theorem dX12_isWritten_28 : decode cX12_isWritten 28 = .ok (.iconst 0, 1) := by decide +kernel
theorem dX12_isWritten_29 : decode cX12_isWritten 29 = .ok (.ireturn, 1) := by decide +kernel
theorem s145_0 : aW d 145 0 L S h Q = aW d 145 1 L (.int (nI 0) :: S) h Q := ax_iconst mt145 dX12_isWritten_0 ic_0
theorem s145_1 : aW d 145 1 [l0, l1, l2] (.int a :: S) h Q = aW d 145 2 [l0, l1, .int a] S h Q := ax_istore_n mt145 dX12_isWritten_1 (Nat.le_of_ble_eq_true rfl) rfl
theorem s145_2 : aW d 145 2 [l0, l1, .int a] S h Q = aW d 145 3 [l0, l1, .int a] (.int a :: S) h Q := ax_iload_n mt145 dX12_isWritten_2 rfl
theorem s145_3 : aW d 145 3 [.ref o, l1, l2] S h Q = aW d 145 4 [.ref o, l1, l2] (.ref o :: S) h Q := ax_aload_n mt145 dX12_isWritten_3 rfl
theorem s145_4 (hT : gT h o = some (14, 54)) : aW d 145 4 L (.ref o :: S) h Q = aW d 145 7 L (.int (gI h o 15) :: S) h Q := ax_geti mt145 dX12_isWritten_4 (by decide) ft_49301 fk_49301 hT
theorem s145_7 : aW d 145 7 L (.int b :: .int a :: S) h Q = (if a < b then aW d 145 10 L S h Q else aW d 145 28 L S h Q) := ax_icmp_ge mt145 dX12_isWritten_7 (by decide)
theorem s145_10 : aW d 145 10 [.ref o, l1, l2] S h Q = aW d 145 11 [.ref o, l1, l2] (.ref o :: S) h Q := ax_aload_n mt145 dX12_isWritten_10 rfl
theorem s145_11 (hT : gT h o = some (14, 54)) : aW d 145 11 L (.ref o :: S) h Q = (isRf (gR h o 23) = true ∧ aW d 145 14 L (gR h o 23 :: S) h Q) := ax_geta mt145 dX12_isWritten_11 (by decide) ft_49220 fk_49220 hT
theorem s145_14 : aW d 145 14 [l0, l1, .int a] S h Q = aW d 145 15 [l0, l1, .int a] (.int a :: S) h Q := ax_iload_n mt145 dX12_isWritten_14 rfl
theorem s145_15 : aW d 145 15 L (.int a :: .ref o :: S) h Q = (inb a (aI h o) ∧ aW d 145 16 L (.int (gI h o a.toNatClampNeg) :: S) h Q) := ax_iald mt145 dX12_isWritten_15
theorem s145_16 : aW d 145 16 [l0, .int a, l2] S h Q = aW d 145 17 [l0, .int a, l2] (.int a :: S) h Q := ax_iload_n mt145 dX12_isWritten_16 rfl
theorem s145_17 : aW d 145 17 L (.int b :: .int a :: S) h Q = (if a = b then aW d 145 20 L S h Q else aW d 145 22 L S h Q) := ax_icmp_ne mt145 dX12_isWritten_17 (by decide)
theorem s145_20 : aW d 145 20 L S h Q = aW d 145 21 L (.int (nI 1) :: S) h Q := ax_iconst mt145 dX12_isWritten_20 ic_1
theorem s145_21 : aW d 145 21 L [.int a] h Q = (b01 a ∧ Q (some (.int a)) h) := ax_retz mt145 dX12_isWritten_21 rfl
theorem s145_22 : aW d 145 22 [l0, l1, .int a] S h Q = aW d 145 25 [l0, l1, .int (a + nI 1)] S h Q := ax_iinc mt145 dX12_isWritten_22 rfl ic_1 rfl
theorem s145_25 : aW d 145 25 L S h Q = aW d 145 2 L S h Q := ax_goto mt145 dX12_isWritten_25 (by decide)
theorem s145_28 : aW d 145 28 L S h Q = aW d 145 29 L (.int (nI 0) :: S) h Q := ax_iconst mt145 dX12_isWritten_28 ic_0
theorem s145_29 : aW d 145 29 L [.int a] h Q = (b01 a ∧ Q (some (.int a)) h) := ax_retz mt145 dX12_isWritten_29 rfl
-- method 146: BufferRoomModel.isRead(III)Z
theorem dX12_isRead_0 : decode cX12_isRead 0 = .ok (.iconst 0, 1) := by decide +kernel
theorem dX12_isRead_1 : decode cX12_isRead 1 = .ok (.istore 4, 2) := by decide +kernel
theorem dX12_isRead_3 : decode cX12_isRead 3 = .ok (.iload 4, 2) := by decide +kernel
theorem dX12_isRead_5 : decode cX12_isRead 5 = .ok (.iload_n 2, 1) := by decide +kernel
theorem dX12_isRead_6 : decode cX12_isRead 6 = .ok (.if_icmp .ge 26, 3) := by decide +kernel
theorem dX12_isRead_9 : decode cX12_isRead 9 = .ok (.aload_n 0, 1) := by decide +kernel
theorem dX12_isRead_10 : decode cX12_isRead 10 = .ok (.getfield 74, 3) := by decide +kernel
theorem dX12_isRead_13 : decode cX12_isRead 13 = .ok (.iconst 4, 1) := by decide +kernel
theorem dX12_isRead_14 : decode cX12_isRead 14 = .ok (.iload_n 1, 1) := by decide +kernel
theorem dX12_isRead_15 : decode cX12_isRead 15 = .ok (.imul, 1) := by decide +kernel
theorem dX12_isRead_16 : decode cX12_isRead 16 = .ok (.iload 4, 2) := by decide +kernel
theorem dX12_isRead_18 : decode cX12_isRead 18 = .ok (.iadd, 1) := by decide +kernel
theorem dX12_isRead_19 : decode cX12_isRead 19 = .ok (.iaload, 1) := by decide +kernel
theorem dX12_isRead_20 : decode cX12_isRead 20 = .ok (.iload_n 3, 1) := by decide +kernel
theorem dX12_isRead_21 : decode cX12_isRead 21 = .ok (.if_icmp .ne 5, 3) := by decide +kernel
theorem dX12_isRead_24 : decode cX12_isRead 24 = .ok (.iconst 1, 1) := by decide +kernel
theorem dX12_isRead_25 : decode cX12_isRead 25 = .ok (.ireturn, 1) := by decide +kernel
theorem dX12_isRead_26 : decode cX12_isRead 26 = .ok (.iinc 4 1, 3) := by decide +kernel
theorem dX12_isRead_29 : decode cX12_isRead 29 = .ok (.goto (-26), 3) := by decide +kernel
theorem dX12_isRead_32 : decode cX12_isRead 32 = .ok (.iconst 0, 1) := by decide +kernel
theorem dX12_isRead_33 : decode cX12_isRead 33 = .ok (.ireturn, 1) := by decide +kernel
theorem s146_0 : aW d 146 0 L S h Q = aW d 146 1 L (.int (nI 0) :: S) h Q := ax_iconst mt146 dX12_isRead_0 ic_0
theorem s146_1 : aW d 146 1 [l0, l1, l2, l3, l4] (.int a :: S) h Q = aW d 146 3 [l0, l1, l2, l3, .int a] S h Q := ax_istore mt146 dX12_isRead_1 (Nat.le_of_ble_eq_true rfl) rfl
theorem s146_3 : aW d 146 3 [l0, l1, l2, l3, .int a] S h Q = aW d 146 5 [l0, l1, l2, l3, .int a] (.int a :: S) h Q := ax_iload mt146 dX12_isRead_3 rfl
theorem s146_5 : aW d 146 5 [l0, l1, .int a, l3, l4] S h Q = aW d 146 6 [l0, l1, .int a, l3, l4] (.int a :: S) h Q := ax_iload_n mt146 dX12_isRead_5 rfl
theorem s146_6 : aW d 146 6 L (.int b :: .int a :: S) h Q = (if a < b then aW d 146 9 L S h Q else aW d 146 32 L S h Q) := ax_icmp_ge mt146 dX12_isRead_6 (by decide)
theorem s146_9 : aW d 146 9 [.ref o, l1, l2, l3, l4] S h Q = aW d 146 10 [.ref o, l1, l2, l3, l4] (.ref o :: S) h Q := ax_aload_n mt146 dX12_isRead_9 rfl
theorem s146_10 (hT : gT h o = some (14, 54)) : aW d 146 10 L (.ref o :: S) h Q = (isRf (gR h o 25) = true ∧ aW d 146 13 L (gR h o 25 :: S) h Q) := ax_geta mt146 dX12_isRead_10 (by decide) ft_49226 fk_49226 hT
theorem s146_13 : aW d 146 13 L S h Q = aW d 146 14 L (.int (nI 4) :: S) h Q := ax_iconst mt146 dX12_isRead_13 ic_4
theorem s146_14 : aW d 146 14 [l0, .int a, l2, l3, l4] S h Q = aW d 146 15 [l0, .int a, l2, l3, l4] (.int a :: S) h Q := ax_iload_n mt146 dX12_isRead_14 rfl
theorem s146_15 : aW d 146 15 L (.int b :: .int a :: S) h Q = aW d 146 16 L (.int (a * b) :: S) h Q := ax_imul mt146 dX12_isRead_15
theorem s146_16 : aW d 146 16 [l0, l1, l2, l3, .int a] S h Q = aW d 146 18 [l0, l1, l2, l3, .int a] (.int a :: S) h Q := ax_iload mt146 dX12_isRead_16 rfl
theorem s146_18 : aW d 146 18 L (.int b :: .int a :: S) h Q = aW d 146 19 L (.int (a + b) :: S) h Q := ax_iadd mt146 dX12_isRead_18
theorem s146_19 : aW d 146 19 L (.int a :: .ref o :: S) h Q = (inb a (aI h o) ∧ aW d 146 20 L (.int (gI h o a.toNatClampNeg) :: S) h Q) := ax_iald mt146 dX12_isRead_19
theorem s146_20 : aW d 146 20 [l0, l1, l2, .int a, l4] S h Q = aW d 146 21 [l0, l1, l2, .int a, l4] (.int a :: S) h Q := ax_iload_n mt146 dX12_isRead_20 rfl
theorem s146_21 : aW d 146 21 L (.int b :: .int a :: S) h Q = (if a = b then aW d 146 24 L S h Q else aW d 146 26 L S h Q) := ax_icmp_ne mt146 dX12_isRead_21 (by decide)
theorem s146_24 : aW d 146 24 L S h Q = aW d 146 25 L (.int (nI 1) :: S) h Q := ax_iconst mt146 dX12_isRead_24 ic_1
theorem s146_25 : aW d 146 25 L [.int a] h Q = (b01 a ∧ Q (some (.int a)) h) := ax_retz mt146 dX12_isRead_25 rfl
theorem s146_26 : aW d 146 26 [l0, l1, l2, l3, .int a] S h Q = aW d 146 29 [l0, l1, l2, l3, .int (a + nI 1)] S h Q := ax_iinc mt146 dX12_isRead_26 rfl ic_1 rfl
theorem s146_29 : aW d 146 29 L S h Q = aW d 146 3 L S h Q := ax_goto mt146 dX12_isRead_29 (by decide)
theorem s146_32 : aW d 146 32 L S h Q = aW d 146 33 L (.int (nI 0) :: S) h Q := ax_iconst mt146 dX12_isRead_32 ic_0
theorem s146_33 : aW d 146 33 L [.int a] h Q = (b01 a ∧ Q (some (.int a)) h) := ax_retz mt146 dX12_isRead_33 rfl
-- method 147: BufferRoomModel.readsStep()Z
theorem dX12_readsStep_0 : decode cX12_readsStep 0 = .ok (.aload_n 0, 1) := by decide +kernel
theorem dX12_readsStep_1 : decode cX12_readsStep 1 = .ok (.getfield 149, 3) := by decide +kernel
theorem dX12_readsStep_4 : decode cX12_readsStep 4 = .ok (.bipush 10, 2) := by decide +kernel
theorem dX12_readsStep_6 : decode cX12_readsStep 6 = .ok (.if_icmp .ne 5, 3) := by decide +kernel
theorem dX12_readsStep_9 : decode cX12_readsStep 9 = .ok (.iconst 0, 1) := by decide +kernel
theorem dX12_readsStep_10 : decode cX12_readsStep 10 = .ok (.ireturn, 1) := by decide +kernel
theorem dX12_readsStep_11 : decode cX12_readsStep 11 = .ok (.aload_n 0, 1) := by decide +kernel
theorem dX12_readsStep_12 : decode cX12_readsStep 12 = .ok (.getfield 149, 3) := by decide +kernel
theorem dX12_readsStep_15 : decode cX12_readsStep 15 = .ok (.istore_n 1, 1) := by decide +kernel
theorem dX12_readsStep_16 : decode cX12_readsStep 16 = .ok (.aload_n 0, 1) := by decide +kernel
theorem dX12_readsStep_17 : decode cX12_readsStep 17 = .ok (.getfield 62, 3) := by decide +kernel
theorem dX12_readsStep_20 : decode cX12_readsStep 20 = .ok (.iload_n 1, 1) := by decide +kernel
theorem dX12_readsStep_21 : decode cX12_readsStep 21 = .ok (.aload_n 0, 1) := by decide +kernel
theorem dX12_readsStep_22 : decode cX12_readsStep 22 = .ok (.invokevirtual 138, 3) := by decide +kernel
theorem dX12_readsStep_25 : decode cX12_readsStep 25 = .ok (.bipush 48, 2) := by decide +kernel
theorem dX12_readsStep_27 : decode cX12_readsStep 27 = .ok (.isub, 1) := by decide +kernel
theorem dX12_readsStep_28 : decode cX12_readsStep 28 = .ok (.iastore, 1) := by decide +kernel
theorem dX12_readsStep_29 : decode cX12_readsStep 29 = .ok (.aload_n 0, 1) := by decide +kernel
theorem dX12_readsStep_30 : decode cX12_readsStep 30 = .ok (.dup, 1) := by decide +kernel
theorem dX12_readsStep_31 : decode cX12_readsStep 31 = .ok (.getfield 135, 3) := by decide +kernel
theorem dX12_readsStep_34 : decode cX12_readsStep 34 = .ok (.iconst 1, 1) := by decide +kernel
theorem dX12_readsStep_35 : decode cX12_readsStep 35 = .ok (.iadd, 1) := by decide +kernel
theorem dX12_readsStep_36 : decode cX12_readsStep 36 = .ok (.putfield 135, 3) := by decide +kernel
theorem dX12_readsStep_39 : decode cX12_readsStep 39 = .ok (.iconst 0, 1) := by decide +kernel
theorem dX12_readsStep_40 : decode cX12_readsStep 40 = .ok (.istore_n 2, 1) := by decide +kernel
theorem dX12_readsStep_41 : decode cX12_readsStep 41 = .ok (.iload_n 2, 1) := by decide +kernel
theorem dX12_readsStep_42 : decode cX12_readsStep 42 = .ok (.iconst 4, 1) := by decide +kernel
theorem dX12_readsStep_43 : decode cX12_readsStep 43 = .ok (.if_icmp .ge 99, 3) := by decide +kernel
theorem dX12_readsStep_46 : decode cX12_readsStep 46 = .ok (.aload_n 0, 1) := by decide +kernel
theorem dX12_readsStep_47 : decode cX12_readsStep 47 = .ok (.invokevirtual 138, 3) := by decide +kernel
theorem dX12_readsStep_50 : decode cX12_readsStep 50 = .ok (.bipush 97, 2) := by decide +kernel
theorem dX12_readsStep_52 : decode cX12_readsStep 52 = .ok (.bipush 108, 2) := by decide +kernel
theorem dX12_readsStep_54 : decode cX12_readsStep 54 = .ok (.invokestatic 125, 3) := by decide +kernel
theorem dX12_readsStep_57 : decode cX12_readsStep 57 = .ok (.ifCond .eq 85, 3) := by decide +kernel
theorem dX12_readsStep_60 : decode cX12_readsStep 60 = .ok (.aload_n 0, 1) := by decide +kernel
theorem dX12_readsStep_61 : decode cX12_readsStep 61 = .ok (.getfield 47, 3) := by decide +kernel
theorem dX12_readsStep_64 : decode cX12_readsStep 64 = .ok (.aload_n 0, 1) := by decide +kernel
theorem dX12_readsStep_65 : decode cX12_readsStep 65 = .ok (.invokevirtual 138, 3) := by decide +kernel
theorem dX12_readsStep_68 : decode cX12_readsStep 68 = .ok (.bipush 97, 2) := by decide +kernel
theorem dX12_readsStep_70 : decode cX12_readsStep 70 = .ok (.bipush 108, 2) := by decide +kernel
theorem dX12_readsStep_72 : decode cX12_readsStep 72 = .ok (.invokestatic 125, 3) := by decide +kernel
theorem dX12_readsStep_75 : decode cX12_readsStep 75 = .ok (.ifCond .eq 13, 3) := by decide +kernel
theorem dX12_readsStep_78 : decode cX12_readsStep 78 = .ok (.aload_n 0, 1) := by decide +kernel
theorem dX12_readsStep_79 : decode cX12_readsStep 79 = .ok (.invokevirtual 138, 3) := by decide +kernel
theorem dX12_readsStep_82 : decode cX12_readsStep 82 = .ok (.bipush 97, 2) := by decide +kernel
theorem dX12_readsStep_84 : decode cX12_readsStep 84 = .ok (.isub, 1) := by decide +kernel
theorem dX12_readsStep_85 : decode cX12_readsStep 85 = .ok (.goto 4, 3) := by decide +kernel
theorem dX12_readsStep_88 : decode cX12_readsStep 88 = .ok (.iconst 0, 1) := by decide +kernel
theorem dX12_readsStep_89 : decode cX12_readsStep 89 = .ok (.baload, 1) := by decide +kernel
theorem dX12_readsStep_90 : decode cX12_readsStep 90 = .ok (.ifCond .eq 52, 3) := by decide +kernel
theorem dX12_readsStep_93 : decode cX12_readsStep 93 = .ok (.aload_n 0, 1) := by decide +kernel
theorem dX12_readsStep_94 : decode cX12_readsStep 94 = .ok (.iload_n 1, 1) := by decide +kernel
theorem dX12_readsStep_95 : decode cX12_readsStep 95 = .ok (.iload_n 2, 1) := by decide +kernel
theorem dX12_readsStep_96 : decode cX12_readsStep 96 = .ok (.aload_n 0, 1) := by decide +kernel
theorem dX12_readsStep_97 : decode cX12_readsStep 97 = .ok (.invokevirtual 138, 3) := by decide +kernel
theorem dX12_readsStep_100 : decode cX12_readsStep 100 = .ok (.bipush 97, 2) := by decide +kernel
theorem dX12_readsStep_102 : decode cX12_readsStep 102 = .ok (.isub, 1) := by decide +kernel
theorem dX12_readsStep_103 : decode cX12_readsStep 103 = .ok (.invokevirtual 152, 3) := by decide +kernel
theorem dX12_readsStep_106 : decode cX12_readsStep 106 = .ok (.ifCond .ne 36, 3) := by decide +kernel
theorem dX12_readsStep_109 : decode cX12_readsStep 109 = .ok (.aload_n 0, 1) := by decide +kernel
theorem dX12_readsStep_110 : decode cX12_readsStep 110 = .ok (.getfield 74, 3) := by decide +kernel
theorem dX12_readsStep_113 : decode cX12_readsStep 113 = .ok (.iconst 4, 1) := by decide +kernel
theorem dX12_readsStep_114 : decode cX12_readsStep 114 = .ok (.iload_n 1, 1) := by decide +kernel
theorem dX12_readsStep_115 : decode cX12_readsStep 115 = .ok (.imul, 1) := by decide +kernel
theorem dX12_readsStep_116 : decode cX12_readsStep 116 = .ok (.iload_n 2, 1) := by decide +kernel
theorem dX12_readsStep_117 : decode cX12_readsStep 117 = .ok (.iadd, 1) := by decide +kernel
theorem dX12_readsStep_118 : decode cX12_readsStep 118 = .ok (.aload_n 0, 1) := by decide +kernel
theorem dX12_readsStep_119 : decode cX12_readsStep 119 = .ok (.invokevirtual 138, 3) := by decide +kernel
theorem dX12_readsStep_122 : decode cX12_readsStep 122 = .ok (.bipush 97, 2) := by decide +kernel
theorem dX12_readsStep_124 : decode cX12_readsStep 124 = .ok (.isub, 1) := by decide +kernel
theorem dX12_readsStep_125 : decode cX12_readsStep 125 = .ok (.iastore, 1) := by decide +kernel
theorem dX12_readsStep_126 : decode cX12_readsStep 126 = .ok (.iinc 2 1, 3) := by decide +kernel
theorem dX12_readsStep_129 : decode cX12_readsStep 129 = .ok (.aload_n 0, 1) := by decide +kernel
theorem dX12_readsStep_130 : decode cX12_readsStep 130 = .ok (.dup, 1) := by decide +kernel
theorem dX12_readsStep_131 : decode cX12_readsStep 131 = .ok (.getfield 135, 3) := by decide +kernel
theorem dX12_readsStep_134 : decode cX12_readsStep 134 = .ok (.iconst 1, 1) := by decide +kernel
theorem dX12_readsStep_135 : decode cX12_readsStep 135 = .ok (.iadd, 1) := by decide +kernel
theorem dX12_readsStep_136 : decode cX12_readsStep 136 = .ok (.putfield 135, 3) := by decide +kernel
theorem dX12_readsStep_139 : decode cX12_readsStep 139 = .ok (.goto (-98), 3) := by decide +kernel
theorem dX12_readsStep_142 : decode cX12_readsStep 142 = .ok (.aload_n 0, 1) := by decide +kernel
theorem dX12_readsStep_143 : decode cX12_readsStep 143 = .ok (.getfield 71, 3) := by decide +kernel
theorem dX12_readsStep_146 : decode cX12_readsStep 146 = .ok (.iload_n 1, 1) := by decide +kernel
theorem dX12_readsStep_147 : decode cX12_readsStep 147 = .ok (.iload_n 2, 1) := by decide +kernel
theorem dX12_readsStep_148 : decode cX12_readsStep 148 = .ok (.iastore, 1) := by decide +kernel
theorem dX12_readsStep_149 : decode cX12_readsStep 149 = .ok (.aload_n 0, 1) := by decide +kernel
theorem dX12_readsStep_150 : decode cX12_readsStep 150 = .ok (.bipush 62, 2) := by decide +kernel
theorem dX12_readsStep_152 : decode cX12_readsStep 152 = .ok (.invokevirtual 145, 3) := by decide +kernel
theorem dX12_readsStep_155 : decode cX12_readsStep 155 = .ok (.ifCond .ne 5, 3) := by decide +kernel
theorem dX12_readsStep_158 : decode cX12_readsStep 158 = .ok (.iconst 0, 1) := by decide +kernel
theorem dX12_readsStep_159 : decode cX12_readsStep 159 = .ok (.ireturn, 1) := by decide +kernel
theorem dX12_readsStep_160 : decode cX12_readsStep 160 = .ok (.aload_n 0, 1) := by decide +kernel
theorem dX12_readsStep_161 : decode cX12_readsStep 161 = .ok (.invokevirtual 138, 3) := by decide +kernel
theorem dX12_readsStep_164 : decode cX12_readsStep 164 = .ok (.bipush 97, 2) := by decide +kernel
theorem dX12_readsStep_166 : decode cX12_readsStep 166 = .ok (.isub, 1) := by decide +kernel
theorem dX12_readsStep_167 : decode cX12_readsStep 167 = .ok (.istore_n 3, 1) := by decide +kernel
theorem dX12_readsStep_168 : decode cX12_readsStep 168 = .ok (.iload_n 3, 1) := by decide +kernel
theorem dX12_readsStep_169 : decode cX12_readsStep 169 = .ok (.iconst 0, 1) := by decide +kernel
theorem dX12_readsStep_170 : decode cX12_readsStep 170 = .ok (.bipush 11, 2) := by decide +kernel
theorem dX12_readsStep_172 : decode cX12_readsStep 172 = .ok (.invokestatic 125, 3) := by decide +kernel
theorem dX12_readsStep_175 : decode cX12_readsStep 175 = .ok (.ifCond .ne 5, 3) := by decide +kernel
theorem dX12_readsStep_178 : decode cX12_readsStep 178 = .ok (.iconst 0, 1) := by decide +kernel
theorem dX12_readsStep_179 : decode cX12_readsStep 179 = .ok (.ireturn, 1) := by decide +kernel
theorem dX12_readsStep_180 : decode cX12_readsStep 180 = .ok (.aload_n 0, 1) := by decide +kernel
theorem dX12_readsStep_181 : decode cX12_readsStep 181 = .ok (.getfield 47, 3) := by decide +kernel
theorem dX12_readsStep_184 : decode cX12_readsStep 184 = .ok (.iload_n 3, 1) := by decide +kernel
theorem dX12_readsStep_185 : decode cX12_readsStep 185 = .ok (.baload, 1) := by decide +kernel
theorem dX12_readsStep_186 : decode cX12_readsStep 186 = .ok (.ifCond .eq 21, 3) := by decide +kernel
theorem dX12_readsStep_189 : decode cX12_readsStep 189 = .ok (.aload_n 0, 1) := by decide +kernel
theorem dX12_readsStep_190 : decode cX12_readsStep 190 = .ok (.iload_n 3, 1) := by decide +kernel
theorem dX12_readsStep_191 : decode cX12_readsStep 191 = .ok (.invokevirtual 155, 3) := by decide +kernel
theorem dX12_readsStep_194 : decode cX12_readsStep 194 = .ok (.ifCond .ne 13, 3) := by decide +kernel
theorem dX12_readsStep_197 : decode cX12_readsStep 197 = .ok (.aload_n 0, 1) := by decide +kernel
theorem dX12_readsStep_198 : decode cX12_readsStep 198 = .ok (.iload_n 1, 1) := by decide +kernel
theorem dX12_readsStep_199 : decode cX12_readsStep 199 = .ok (.iload_n 2, 1) := by decide +kernel
theorem dX12_readsStep_200 : decode cX12_readsStep 200 = .ok (.iload_n 3, 1) := by decide +kernel
theorem dX12_readsStep_201 : decode cX12_readsStep 201 = .ok (.invokevirtual 152, 3) := by decide +kernel
theorem dX12_readsStep_204 : decode cX12_readsStep 204 = .ok (.ifCond .eq 5, 3) := by decide +kernel
theorem dX12_readsStep_207 : decode cX12_readsStep 207 = .ok (.iconst 0, 1) := by decide +kernel
theorem dX12_readsStep_208 : decode cX12_readsStep 208 = .ok (.ireturn, 1) := by decide +kernel
theorem dX12_readsStep_209 : decode cX12_readsStep 209 = .ok (.aload_n 0, 1) := by decide +kernel
theorem dX12_readsStep_210 : decode cX12_readsStep 210 = .ok (.dup, 1) := by decide +kernel
theorem dX12_readsStep_211 : decode cX12_readsStep 211 = .ok (.getfield 135, 3) := by decide +kernel
theorem dX12_readsStep_214 : decode cX12_readsStep 214 = .ok (.iconst 1, 1) := by decide +kernel
theorem dX12_readsStep_215 : decode cX12_readsStep 215 = .ok (.iadd, 1) := by decide +kernel
theorem dX12_readsStep_216 : decode cX12_readsStep 216 = .ok (.putfield 135, 3) := by decide +kernel
theorem dX12_readsStep_219 : decode cX12_readsStep 219 = .ok (.aload_n 0, 1) := by decide +kernel
theorem dX12_readsStep_220 : decode cX12_readsStep 220 = .ok (.getfield 68, 3) := by decide +kernel
theorem dX12_readsStep_223 : decode cX12_readsStep 223 = .ok (.iload_n 1, 1) := by decide +kernel
theorem dX12_readsStep_224 : decode cX12_readsStep 224 = .ok (.iload_n 3, 1) := by decide +kernel
theorem dX12_readsStep_225 : decode cX12_readsStep 225 = .ok (.iastore, 1) := by decide +kernel
theorem dX12_readsStep_226 : decode cX12_readsStep 226 = .ok (.aload_n 0, 1) := by decide +kernel
theorem dX12_readsStep_227 : decode cX12_readsStep 227 = .ok (.getfield 65, 3) := by decide +kernel
theorem dX12_readsStep_230 : decode cX12_readsStep 230 = .ok (.iload_n 1, 1) := by decide +kernel
theorem dX12_readsStep_231 : decode cX12_readsStep 231 = .ok (.aload_n 0, 1) := by decide +kernel
theorem dX12_readsStep_232 : decode cX12_readsStep 232 = .ok (.invokevirtual 142, 3) := by decide +kernel
theorem dX12_readsStep_235 : decode cX12_readsStep 235 = .ok (.iastore, 1) := by decide +kernel
theorem dX12_readsStep_236 : decode cX12_readsStep 236 = .ok (.aload_n 0, 1) := by decide +kernel
theorem dX12_readsStep_237 : decode cX12_readsStep 237 = .ok (.getfield 65, 3) := by decide +kernel
theorem dX12_readsStep_240 : decode cX12_readsStep 240 = .ok (.iload_n 1, 1) := by decide +kernel
theorem dX12_readsStep_241 : decode cX12_readsStep 241 = .ok (.iaload, 1) := by decide +kernel
theorem dX12_readsStep_242 : decode cX12_readsStep 242 = .ok (.iconst (-1), 1) := by decide +kernel
theorem dX12_readsStep_243 : decode cX12_readsStep 243 = .ok (.if_icmp .ne 5, 3) := by decide +kernel
theorem dX12_readsStep_246 : decode cX12_readsStep 246 = .ok (.iconst 0, 1) := by decide +kernel
theorem dX12_readsStep_247 : decode cX12_readsStep 247 = .ok (.ireturn, 1) := by decide +kernel
theorem dX12_readsStep_248 : decode cX12_readsStep 248 = .ok (.aload_n 0, 1) := by decide +kernel
theorem dX12_readsStep_249 : decode cX12_readsStep 249 = .ok (.dup, 1) := by decide +kernel
theorem dX12_readsStep_250 : decode cX12_readsStep 250 = .ok (.getfield 149, 3) := by decide +kernel
theorem dX12_readsStep_253 : decode cX12_readsStep 253 = .ok (.iconst 1, 1) := by decide +kernel
theorem dX12_readsStep_254 : decode cX12_readsStep 254 = .ok (.iadd, 1) := by decide +kernel
theorem dX12_readsStep_255 : decode cX12_readsStep 255 = .ok (.putfield 149, 3) := by decide +kernel
theorem dX12_readsStep_258 : decode cX12_readsStep 258 = .ok (.iconst 1, 1) := by decide +kernel
theorem dX12_readsStep_259 : decode cX12_readsStep 259 = .ok (.ireturn, 1) := by decide +kernel
theorem s147_0 : aW d 147 0 [.ref o, l1, l2, l3] S h Q = aW d 147 1 [.ref o, l1, l2, l3] (.ref o :: S) h Q := ax_aload_n mt147 dX12_readsStep_0 rfl
theorem s147_1 (hT : gT h o = some (14, 54)) : aW d 147 1 L (.ref o :: S) h Q = aW d 147 4 L (.int (gI h o 15) :: S) h Q := ax_geti mt147 dX12_readsStep_1 (by decide) ft_49301 fk_49301 hT
theorem s147_4 : aW d 147 4 L S h Q = aW d 147 6 L (.int (nI 10) :: S) h Q := ax_bipush mt147 dX12_readsStep_4 bp_10
theorem s147_6 : aW d 147 6 L (.int b :: .int a :: S) h Q = (if a = b then aW d 147 9 L S h Q else aW d 147 11 L S h Q) := ax_icmp_ne mt147 dX12_readsStep_6 (by decide)
theorem s147_9 : aW d 147 9 L S h Q = aW d 147 10 L (.int (nI 0) :: S) h Q := ax_iconst mt147 dX12_readsStep_9 ic_0
theorem s147_10 : aW d 147 10 L [.int a] h Q = (b01 a ∧ Q (some (.int a)) h) := ax_retz mt147 dX12_readsStep_10 rfl
theorem s147_11 : aW d 147 11 [.ref o, l1, l2, l3] S h Q = aW d 147 12 [.ref o, l1, l2, l3] (.ref o :: S) h Q := ax_aload_n mt147 dX12_readsStep_11 rfl
theorem s147_12 (hT : gT h o = some (14, 54)) : aW d 147 12 L (.ref o :: S) h Q = aW d 147 15 L (.int (gI h o 15) :: S) h Q := ax_geti mt147 dX12_readsStep_12 (by decide) ft_49301 fk_49301 hT
theorem s147_15 : aW d 147 15 [l0, l1, l2, l3] (.int a :: S) h Q = aW d 147 16 [l0, .int a, l2, l3] S h Q := ax_istore_n mt147 dX12_readsStep_15 (Nat.le_of_ble_eq_true rfl) rfl
theorem s147_16 : aW d 147 16 [.ref o, l1, l2, l3] S h Q = aW d 147 17 [.ref o, l1, l2, l3] (.ref o :: S) h Q := ax_aload_n mt147 dX12_readsStep_16 rfl
theorem s147_17 (hT : gT h o = some (14, 54)) : aW d 147 17 L (.ref o :: S) h Q = (isRf (gR h o 21) = true ∧ aW d 147 20 L (gR h o 21 :: S) h Q) := ax_geta mt147 dX12_readsStep_17 (by decide) ft_49214 fk_49214 hT
theorem s147_20 : aW d 147 20 [l0, .int a, l2, l3] S h Q = aW d 147 21 [l0, .int a, l2, l3] (.int a :: S) h Q := ax_iload_n mt147 dX12_readsStep_20 rfl
theorem s147_21 : aW d 147 21 [.ref o, l1, l2, l3] S h Q = aW d 147 22 [.ref o, l1, l2, l3] (.ref o :: S) h Q := ax_aload_n mt147 dX12_readsStep_21 rfl
theorem s147_22 (hT : gT h o = some (14, 54)) : aW (d + 1) 147 22 L (.ref o :: [.int y0, .ref q1]) h Q = aM d 141 (.ref o :: []) h (fun v h1 => aW (d + 1) 147 25 L (ab_ps v [.int y0, .ref q1]) h1 Q) := ax_invv mt147 dX12_readsStep_22 (by decide) ct_49290 (.inl rfl) mt141 ⟨⟨Nat.le_of_ble_eq_true rfl, Nat.le_of_ble_eq_true rfl, Nat.le_of_ble_eq_true rfl⟩, rfl, rfl, rfl⟩ hT
theorem s147_25 : aW d 147 25 L S h Q = aW d 147 27 L (.int (nI 48) :: S) h Q := ax_bipush mt147 dX12_readsStep_25 bp_48
theorem s147_27 : aW d 147 27 L (.int b :: .int a :: S) h Q = aW d 147 28 L (.int (a - b) :: S) h Q := ax_isub mt147 dX12_readsStep_27
theorem s147_28 : aW d 147 28 L (.int b :: .int a :: .ref o :: S) h Q = (inb a (aJ h o) ∧ aW d 147 29 L S (pI h o a.toNatClampNeg b) Q) := ax_iast mt147 dX12_readsStep_28
theorem s147_29 : aW d 147 29 [.ref o, l1, l2, l3] S h Q = aW d 147 30 [.ref o, l1, l2, l3] (.ref o :: S) h Q := ax_aload_n mt147 dX12_readsStep_29 rfl
theorem s147_30 : aW d 147 30 L (.ref o :: S) h Q = aW d 147 31 L (.ref o :: .ref o :: S) h Q := ax_dupa mt147 dX12_readsStep_30
theorem s147_31 (hT : gT h o = some (14, 54)) : aW d 147 31 L (.ref o :: S) h Q = aW d 147 34 L (.int (gI h o 45) :: S) h Q := ax_geti mt147 dX12_readsStep_31 (by decide) ft_49287 fk_49287 hT
theorem s147_34 : aW d 147 34 L S h Q = aW d 147 35 L (.int (nI 1) :: S) h Q := ax_iconst mt147 dX12_readsStep_34 ic_1
theorem s147_35 : aW d 147 35 L (.int b :: .int a :: S) h Q = aW d 147 36 L (.int (a + b) :: S) h Q := ax_iadd mt147 dX12_readsStep_35
theorem s147_36 (hT : gT h o = some (14, 54)) : aW d 147 36 L (.int a :: .ref o :: S) h Q = aW d 147 39 L S (pI h o 45 a) Q := ax_puti mt147 dX12_readsStep_36 (by decide) ft_49287 (fun q => fn_49287 q.1) fp_49287 hT
theorem s147_39 : aW d 147 39 L S h Q = aW d 147 40 L (.int (nI 0) :: S) h Q := ax_iconst mt147 dX12_readsStep_39 ic_0
theorem s147_40 : aW d 147 40 [l0, l1, l2, l3] (.int a :: S) h Q = aW d 147 41 [l0, l1, .int a, l3] S h Q := ax_istore_n mt147 dX12_readsStep_40 (Nat.le_of_ble_eq_true rfl) rfl
theorem s147_41 : aW d 147 41 [l0, l1, .int a, l3] S h Q = aW d 147 42 [l0, l1, .int a, l3] (.int a :: S) h Q := ax_iload_n mt147 dX12_readsStep_41 rfl
theorem s147_42 : aW d 147 42 L S h Q = aW d 147 43 L (.int (nI 4) :: S) h Q := ax_iconst mt147 dX12_readsStep_42 ic_4
theorem s147_43 : aW d 147 43 L (.int b :: .int a :: S) h Q = (if a < b then aW d 147 46 L S h Q else aW d 147 142 L S h Q) := ax_icmp_ge mt147 dX12_readsStep_43 (by decide)
theorem s147_46 : aW d 147 46 [.ref o, l1, l2, l3] S h Q = aW d 147 47 [.ref o, l1, l2, l3] (.ref o :: S) h Q := ax_aload_n mt147 dX12_readsStep_46 rfl
theorem s147_47 (hT : gT h o = some (14, 54)) : aW (d + 1) 147 47 L (.ref o :: []) h Q = aM d 141 (.ref o :: []) h (fun v h1 => aW (d + 1) 147 50 L (ab_ps v []) h1 Q) := ax_invv mt147 dX12_readsStep_47 (by decide) ct_49290 (.inl rfl) mt141 ⟨⟨Nat.le_of_ble_eq_true rfl, Nat.le_of_ble_eq_true rfl, Nat.le_of_ble_eq_true rfl⟩, rfl, rfl, rfl⟩ hT
theorem s147_50 : aW d 147 50 L S h Q = aW d 147 52 L (.int (nI 97) :: S) h Q := ax_bipush mt147 dX12_readsStep_50 bp_97
theorem s147_52 : aW d 147 52 L S h Q = aW d 147 54 L (.int (nI 108) :: S) h Q := ax_bipush mt147 dX12_readsStep_52 bp_108
theorem s147_54 : aW (d + 1) 147 54 L (.int x2 :: .int x1 :: .int x0 :: []) h Q = aM d 139 [.int x0, .int x1, .int x2] h (fun v h1 => aW (d + 1) 147 57 L (ab_ps v []) h1 Q) := ax_invs mt147 dX12_readsStep_54 (by decide) ct_49277 (.inl rfl) mt139 ⟨⟨Nat.le_of_ble_eq_true rfl, Nat.le_of_ble_eq_true rfl, Nat.le_of_ble_eq_true rfl⟩, rfl, rfl⟩
theorem s147_57 : aW d 147 57 L (.int a :: S) h Q = (if a = 0 then aW d 147 142 L S h Q else aW d 147 60 L S h Q) := ax_if_eq mt147 dX12_readsStep_57 (by decide)
theorem s147_60 : aW d 147 60 [.ref o, l1, l2, l3] S h Q = aW d 147 61 [.ref o, l1, l2, l3] (.ref o :: S) h Q := ax_aload_n mt147 dX12_readsStep_60 rfl
theorem s147_61 (hT : gT h o = some (14, 54)) : aW d 147 61 L (.ref o :: S) h Q = (isRf (gR h o 16) = true ∧ aW d 147 64 L (gR h o 16 :: S) h Q) := ax_geta mt147 dX12_readsStep_61 (by decide) ft_49199 fk_49199 hT
theorem s147_64 : aW d 147 64 [.ref o, l1, l2, l3] S h Q = aW d 147 65 [.ref o, l1, l2, l3] (.ref o :: S) h Q := ax_aload_n mt147 dX12_readsStep_64 rfl
theorem s147_65 (hT : gT h o = some (14, 54)) : aW (d + 1) 147 65 L (.ref o :: [.ref q0]) h Q = aM d 141 (.ref o :: []) h (fun v h1 => aW (d + 1) 147 68 L (ab_ps v [.ref q0]) h1 Q) := ax_invv mt147 dX12_readsStep_65 (by decide) ct_49290 (.inl rfl) mt141 ⟨⟨Nat.le_of_ble_eq_true rfl, Nat.le_of_ble_eq_true rfl, Nat.le_of_ble_eq_true rfl⟩, rfl, rfl, rfl⟩ hT
theorem s147_68 : aW d 147 68 L S h Q = aW d 147 70 L (.int (nI 97) :: S) h Q := ax_bipush mt147 dX12_readsStep_68 bp_97
theorem s147_70 : aW d 147 70 L S h Q = aW d 147 72 L (.int (nI 108) :: S) h Q := ax_bipush mt147 dX12_readsStep_70 bp_108
theorem s147_72 : aW (d + 1) 147 72 L (.int x2 :: .int x1 :: .int x0 :: [.ref q0]) h Q = aM d 139 [.int x0, .int x1, .int x2] h (fun v h1 => aW (d + 1) 147 75 L (ab_ps v [.ref q0]) h1 Q) := ax_invs mt147 dX12_readsStep_72 (by decide) ct_49277 (.inl rfl) mt139 ⟨⟨Nat.le_of_ble_eq_true rfl, Nat.le_of_ble_eq_true rfl, Nat.le_of_ble_eq_true rfl⟩, rfl, rfl⟩
theorem s147_75 : aW d 147 75 L (.int a :: S) h Q = (if a = 0 then aW d 147 88 L S h Q else aW d 147 78 L S h Q) := ax_if_eq mt147 dX12_readsStep_75 (by decide)
theorem s147_78 : aW d 147 78 [.ref o, l1, l2, l3] S h Q = aW d 147 79 [.ref o, l1, l2, l3] (.ref o :: S) h Q := ax_aload_n mt147 dX12_readsStep_78 rfl
theorem s147_79 (hT : gT h o = some (14, 54)) : aW (d + 1) 147 79 L (.ref o :: [.ref q0]) h Q = aM d 141 (.ref o :: []) h (fun v h1 => aW (d + 1) 147 82 L (ab_ps v [.ref q0]) h1 Q) := ax_invv mt147 dX12_readsStep_79 (by decide) ct_49290 (.inl rfl) mt141 ⟨⟨Nat.le_of_ble_eq_true rfl, Nat.le_of_ble_eq_true rfl, Nat.le_of_ble_eq_true rfl⟩, rfl, rfl, rfl⟩ hT
theorem s147_82 : aW d 147 82 L S h Q = aW d 147 84 L (.int (nI 97) :: S) h Q := ax_bipush mt147 dX12_readsStep_82 bp_97
theorem s147_84 : aW d 147 84 L (.int b :: .int a :: S) h Q = aW d 147 85 L (.int (a - b) :: S) h Q := ax_isub mt147 dX12_readsStep_84
theorem s147_85 : aW d 147 85 L S h Q = aW d 147 89 L S h Q := ax_goto mt147 dX12_readsStep_85 (by decide)
theorem s147_89 : aW d 147 89 L (.int a :: .ref o :: S) h Q = (inb a (aZ h o) ∧ aW d 147 90 L (.int (gI h o a.toNatClampNeg) :: S) h Q) := ax_zald mt147 dX12_readsStep_89
theorem s147_90 : aW d 147 90 L (.int a :: S) h Q = (if a = 0 then aW d 147 142 L S h Q else aW d 147 93 L S h Q) := ax_if_eq mt147 dX12_readsStep_90 (by decide)
theorem s147_93 : aW d 147 93 [.ref o, l1, l2, l3] S h Q = aW d 147 94 [.ref o, l1, l2, l3] (.ref o :: S) h Q := ax_aload_n mt147 dX12_readsStep_93 rfl
theorem s147_94 : aW d 147 94 [l0, .int a, l2, l3] S h Q = aW d 147 95 [l0, .int a, l2, l3] (.int a :: S) h Q := ax_iload_n mt147 dX12_readsStep_94 rfl
theorem s147_95 : aW d 147 95 [l0, l1, .int a, l3] S h Q = aW d 147 96 [l0, l1, .int a, l3] (.int a :: S) h Q := ax_iload_n mt147 dX12_readsStep_95 rfl
theorem s147_96 : aW d 147 96 [.ref o, l1, l2, l3] S h Q = aW d 147 97 [.ref o, l1, l2, l3] (.ref o :: S) h Q := ax_aload_n mt147 dX12_readsStep_96 rfl
theorem s147_97 (hT : gT h o = some (14, 54)) : aW (d + 1) 147 97 L (.ref o :: [.int y0, .int y1, .ref q2]) h Q = aM d 141 (.ref o :: []) h (fun v h1 => aW (d + 1) 147 100 L (ab_ps v [.int y0, .int y1, .ref q2]) h1 Q) := ax_invv mt147 dX12_readsStep_97 (by decide) ct_49290 (.inl rfl) mt141 ⟨⟨Nat.le_of_ble_eq_true rfl, Nat.le_of_ble_eq_true rfl, Nat.le_of_ble_eq_true rfl⟩, rfl, rfl, rfl⟩ hT
theorem s147_100 : aW d 147 100 L S h Q = aW d 147 102 L (.int (nI 97) :: S) h Q := ax_bipush mt147 dX12_readsStep_100 bp_97
theorem s147_102 : aW d 147 102 L (.int b :: .int a :: S) h Q = aW d 147 103 L (.int (a - b) :: S) h Q := ax_isub mt147 dX12_readsStep_102
theorem s147_103 (hT : gT h o = some (14, 54)) : aW (d + 1) 147 103 L (.int x2 :: .int x1 :: .int x0 :: .ref o :: []) h Q = aM d 146 (.ref o :: [.int x0, .int x1, .int x2]) h (fun v h1 => aW (d + 1) 147 106 L (ab_ps v []) h1 Q) := ax_invv mt147 dX12_readsStep_103 (by decide) ct_49304 (.inl rfl) mt146 ⟨⟨Nat.le_of_ble_eq_true rfl, Nat.le_of_ble_eq_true rfl, Nat.le_of_ble_eq_true rfl⟩, rfl, rfl, rfl⟩ hT
theorem s147_106 : aW d 147 106 L (.int a :: S) h Q = (if a = 0 then aW d 147 109 L S h Q else aW d 147 142 L S h Q) := ax_if_ne mt147 dX12_readsStep_106 (by decide)
theorem s147_109 : aW d 147 109 [.ref o, l1, l2, l3] S h Q = aW d 147 110 [.ref o, l1, l2, l3] (.ref o :: S) h Q := ax_aload_n mt147 dX12_readsStep_109 rfl
theorem s147_110 (hT : gT h o = some (14, 54)) : aW d 147 110 L (.ref o :: S) h Q = (isRf (gR h o 25) = true ∧ aW d 147 113 L (gR h o 25 :: S) h Q) := ax_geta mt147 dX12_readsStep_110 (by decide) ft_49226 fk_49226 hT
theorem s147_113 : aW d 147 113 L S h Q = aW d 147 114 L (.int (nI 4) :: S) h Q := ax_iconst mt147 dX12_readsStep_113 ic_4
theorem s147_114 : aW d 147 114 [l0, .int a, l2, l3] S h Q = aW d 147 115 [l0, .int a, l2, l3] (.int a :: S) h Q := ax_iload_n mt147 dX12_readsStep_114 rfl
theorem s147_115 : aW d 147 115 L (.int b :: .int a :: S) h Q = aW d 147 116 L (.int (a * b) :: S) h Q := ax_imul mt147 dX12_readsStep_115
theorem s147_116 : aW d 147 116 [l0, l1, .int a, l3] S h Q = aW d 147 117 [l0, l1, .int a, l3] (.int a :: S) h Q := ax_iload_n mt147 dX12_readsStep_116 rfl
theorem s147_117 : aW d 147 117 L (.int b :: .int a :: S) h Q = aW d 147 118 L (.int (a + b) :: S) h Q := ax_iadd mt147 dX12_readsStep_117
theorem s147_118 : aW d 147 118 [.ref o, l1, l2, l3] S h Q = aW d 147 119 [.ref o, l1, l2, l3] (.ref o :: S) h Q := ax_aload_n mt147 dX12_readsStep_118 rfl
theorem s147_119 (hT : gT h o = some (14, 54)) : aW (d + 1) 147 119 L (.ref o :: [.int y0, .ref q1]) h Q = aM d 141 (.ref o :: []) h (fun v h1 => aW (d + 1) 147 122 L (ab_ps v [.int y0, .ref q1]) h1 Q) := ax_invv mt147 dX12_readsStep_119 (by decide) ct_49290 (.inl rfl) mt141 ⟨⟨Nat.le_of_ble_eq_true rfl, Nat.le_of_ble_eq_true rfl, Nat.le_of_ble_eq_true rfl⟩, rfl, rfl, rfl⟩ hT
theorem s147_122 : aW d 147 122 L S h Q = aW d 147 124 L (.int (nI 97) :: S) h Q := ax_bipush mt147 dX12_readsStep_122 bp_97
theorem s147_124 : aW d 147 124 L (.int b :: .int a :: S) h Q = aW d 147 125 L (.int (a - b) :: S) h Q := ax_isub mt147 dX12_readsStep_124
theorem s147_125 : aW d 147 125 L (.int b :: .int a :: .ref o :: S) h Q = (inb a (aJ h o) ∧ aW d 147 126 L S (pI h o a.toNatClampNeg b) Q) := ax_iast mt147 dX12_readsStep_125
theorem s147_126 : aW d 147 126 [l0, l1, .int a, l3] S h Q = aW d 147 129 [l0, l1, .int (a + nI 1), l3] S h Q := ax_iinc mt147 dX12_readsStep_126 rfl ic_1 rfl
theorem s147_129 : aW d 147 129 [.ref o, l1, l2, l3] S h Q = aW d 147 130 [.ref o, l1, l2, l3] (.ref o :: S) h Q := ax_aload_n mt147 dX12_readsStep_129 rfl
theorem s147_130 : aW d 147 130 L (.ref o :: S) h Q = aW d 147 131 L (.ref o :: .ref o :: S) h Q := ax_dupa mt147 dX12_readsStep_130
theorem s147_131 (hT : gT h o = some (14, 54)) : aW d 147 131 L (.ref o :: S) h Q = aW d 147 134 L (.int (gI h o 45) :: S) h Q := ax_geti mt147 dX12_readsStep_131 (by decide) ft_49287 fk_49287 hT
theorem s147_134 : aW d 147 134 L S h Q = aW d 147 135 L (.int (nI 1) :: S) h Q := ax_iconst mt147 dX12_readsStep_134 ic_1
theorem s147_135 : aW d 147 135 L (.int b :: .int a :: S) h Q = aW d 147 136 L (.int (a + b) :: S) h Q := ax_iadd mt147 dX12_readsStep_135
theorem s147_136 (hT : gT h o = some (14, 54)) : aW d 147 136 L (.int a :: .ref o :: S) h Q = aW d 147 139 L S (pI h o 45 a) Q := ax_puti mt147 dX12_readsStep_136 (by decide) ft_49287 (fun q => fn_49287 q.1) fp_49287 hT
theorem s147_139 : aW d 147 139 L S h Q = aW d 147 41 L S h Q := ax_goto mt147 dX12_readsStep_139 (by decide)
theorem s147_88 : aW d 147 88 L S h Q = aW d 147 89 L (.int (nI 0) :: S) h Q := ax_iconst mt147 dX12_readsStep_88 ic_0
theorem s147_142 : aW d 147 142 [.ref o, l1, l2, l3] S h Q = aW d 147 143 [.ref o, l1, l2, l3] (.ref o :: S) h Q := ax_aload_n mt147 dX12_readsStep_142 rfl
theorem s147_143 (hT : gT h o = some (14, 54)) : aW d 147 143 L (.ref o :: S) h Q = (isRf (gR h o 24) = true ∧ aW d 147 146 L (gR h o 24 :: S) h Q) := ax_geta mt147 dX12_readsStep_143 (by decide) ft_49223 fk_49223 hT
theorem s147_146 : aW d 147 146 [l0, .int a, l2, l3] S h Q = aW d 147 147 [l0, .int a, l2, l3] (.int a :: S) h Q := ax_iload_n mt147 dX12_readsStep_146 rfl
theorem s147_147 : aW d 147 147 [l0, l1, .int a, l3] S h Q = aW d 147 148 [l0, l1, .int a, l3] (.int a :: S) h Q := ax_iload_n mt147 dX12_readsStep_147 rfl
theorem s147_148 : aW d 147 148 L (.int b :: .int a :: .ref o :: S) h Q = (inb a (aJ h o) ∧ aW d 147 149 L S (pI h o a.toNatClampNeg b) Q) := ax_iast mt147 dX12_readsStep_148
theorem s147_149 : aW d 147 149 [.ref o, l1, l2, l3] S h Q = aW d 147 150 [.ref o, l1, l2, l3] (.ref o :: S) h Q := ax_aload_n mt147 dX12_readsStep_149 rfl
theorem s147_150 : aW d 147 150 L S h Q = aW d 147 152 L (.int (nI 62) :: S) h Q := ax_bipush mt147 dX12_readsStep_150 bp_62
theorem s147_152 (hT : gT h o = some (14, 54)) : aW (d + 1) 147 152 L (.int x0 :: .ref o :: []) h Q = aM d 143 (.ref o :: [.int x0]) h (fun v h1 => aW (d + 1) 147 155 L (ab_ps v []) h1 Q) := ax_invv mt147 dX12_readsStep_152 (by decide) ct_49297 (.inl rfl) mt143 ⟨⟨Nat.le_of_ble_eq_true rfl, Nat.le_of_ble_eq_true rfl, Nat.le_of_ble_eq_true rfl⟩, rfl, rfl, rfl⟩ hT
theorem s147_155 : aW d 147 155 L (.int a :: S) h Q = (if a = 0 then aW d 147 158 L S h Q else aW d 147 160 L S h Q) := ax_if_ne mt147 dX12_readsStep_155 (by decide)
theorem s147_158 : aW d 147 158 L S h Q = aW d 147 159 L (.int (nI 0) :: S) h Q := ax_iconst mt147 dX12_readsStep_158 ic_0
theorem s147_159 : aW d 147 159 L [.int a] h Q = (b01 a ∧ Q (some (.int a)) h) := ax_retz mt147 dX12_readsStep_159 rfl
theorem s147_160 : aW d 147 160 [.ref o, l1, l2, l3] S h Q = aW d 147 161 [.ref o, l1, l2, l3] (.ref o :: S) h Q := ax_aload_n mt147 dX12_readsStep_160 rfl
theorem s147_161 (hT : gT h o = some (14, 54)) : aW (d + 1) 147 161 L (.ref o :: []) h Q = aM d 141 (.ref o :: []) h (fun v h1 => aW (d + 1) 147 164 L (ab_ps v []) h1 Q) := ax_invv mt147 dX12_readsStep_161 (by decide) ct_49290 (.inl rfl) mt141 ⟨⟨Nat.le_of_ble_eq_true rfl, Nat.le_of_ble_eq_true rfl, Nat.le_of_ble_eq_true rfl⟩, rfl, rfl, rfl⟩ hT
theorem s147_164 : aW d 147 164 L S h Q = aW d 147 166 L (.int (nI 97) :: S) h Q := ax_bipush mt147 dX12_readsStep_164 bp_97
theorem s147_166 : aW d 147 166 L (.int b :: .int a :: S) h Q = aW d 147 167 L (.int (a - b) :: S) h Q := ax_isub mt147 dX12_readsStep_166
theorem s147_167 : aW d 147 167 [l0, l1, l2, l3] (.int a :: S) h Q = aW d 147 168 [l0, l1, l2, .int a] S h Q := ax_istore_n mt147 dX12_readsStep_167 (Nat.le_of_ble_eq_true rfl) rfl
theorem s147_168 : aW d 147 168 [l0, l1, l2, .int a] S h Q = aW d 147 169 [l0, l1, l2, .int a] (.int a :: S) h Q := ax_iload_n mt147 dX12_readsStep_168 rfl
theorem s147_169 : aW d 147 169 L S h Q = aW d 147 170 L (.int (nI 0) :: S) h Q := ax_iconst mt147 dX12_readsStep_169 ic_0
theorem s147_170 : aW d 147 170 L S h Q = aW d 147 172 L (.int (nI 11) :: S) h Q := ax_bipush mt147 dX12_readsStep_170 bp_11
theorem s147_172 : aW (d + 1) 147 172 L (.int x2 :: .int x1 :: .int x0 :: []) h Q = aM d 139 [.int x0, .int x1, .int x2] h (fun v h1 => aW (d + 1) 147 175 L (ab_ps v []) h1 Q) := ax_invs mt147 dX12_readsStep_172 (by decide) ct_49277 (.inl rfl) mt139 ⟨⟨Nat.le_of_ble_eq_true rfl, Nat.le_of_ble_eq_true rfl, Nat.le_of_ble_eq_true rfl⟩, rfl, rfl⟩
theorem s147_175 : aW d 147 175 L (.int a :: S) h Q = (if a = 0 then aW d 147 178 L S h Q else aW d 147 180 L S h Q) := ax_if_ne mt147 dX12_readsStep_175 (by decide)
theorem s147_178 : aW d 147 178 L S h Q = aW d 147 179 L (.int (nI 0) :: S) h Q := ax_iconst mt147 dX12_readsStep_178 ic_0
theorem s147_179 : aW d 147 179 L [.int a] h Q = (b01 a ∧ Q (some (.int a)) h) := ax_retz mt147 dX12_readsStep_179 rfl
theorem s147_180 : aW d 147 180 [.ref o, l1, l2, l3] S h Q = aW d 147 181 [.ref o, l1, l2, l3] (.ref o :: S) h Q := ax_aload_n mt147 dX12_readsStep_180 rfl
theorem s147_181 (hT : gT h o = some (14, 54)) : aW d 147 181 L (.ref o :: S) h Q = (isRf (gR h o 16) = true ∧ aW d 147 184 L (gR h o 16 :: S) h Q) := ax_geta mt147 dX12_readsStep_181 (by decide) ft_49199 fk_49199 hT
theorem s147_184 : aW d 147 184 [l0, l1, l2, .int a] S h Q = aW d 147 185 [l0, l1, l2, .int a] (.int a :: S) h Q := ax_iload_n mt147 dX12_readsStep_184 rfl
theorem s147_185 : aW d 147 185 L (.int a :: .ref o :: S) h Q = (inb a (aZ h o) ∧ aW d 147 186 L (.int (gI h o a.toNatClampNeg) :: S) h Q) := ax_zald mt147 dX12_readsStep_185
theorem s147_186 : aW d 147 186 L (.int a :: S) h Q = (if a = 0 then aW d 147 207 L S h Q else aW d 147 189 L S h Q) := ax_if_eq mt147 dX12_readsStep_186 (by decide)
theorem s147_189 : aW d 147 189 [.ref o, l1, l2, l3] S h Q = aW d 147 190 [.ref o, l1, l2, l3] (.ref o :: S) h Q := ax_aload_n mt147 dX12_readsStep_189 rfl
theorem s147_190 : aW d 147 190 [l0, l1, l2, .int a] S h Q = aW d 147 191 [l0, l1, l2, .int a] (.int a :: S) h Q := ax_iload_n mt147 dX12_readsStep_190 rfl
theorem s147_191 (hT : gT h o = some (14, 54)) : aW (d + 1) 147 191 L (.int x0 :: .ref o :: []) h Q = aM d 145 (.ref o :: [.int x0]) h (fun v h1 => aW (d + 1) 147 194 L (ab_ps v []) h1 Q) := ax_invv mt147 dX12_readsStep_191 (by decide) ct_49307 (.inl rfl) mt145 ⟨⟨Nat.le_of_ble_eq_true rfl, Nat.le_of_ble_eq_true rfl, Nat.le_of_ble_eq_true rfl⟩, rfl, rfl, rfl⟩ hT
theorem s147_194 : aW d 147 194 L (.int a :: S) h Q = (if a = 0 then aW d 147 197 L S h Q else aW d 147 207 L S h Q) := ax_if_ne mt147 dX12_readsStep_194 (by decide)
theorem s147_197 : aW d 147 197 [.ref o, l1, l2, l3] S h Q = aW d 147 198 [.ref o, l1, l2, l3] (.ref o :: S) h Q := ax_aload_n mt147 dX12_readsStep_197 rfl
theorem s147_198 : aW d 147 198 [l0, .int a, l2, l3] S h Q = aW d 147 199 [l0, .int a, l2, l3] (.int a :: S) h Q := ax_iload_n mt147 dX12_readsStep_198 rfl
theorem s147_199 : aW d 147 199 [l0, l1, .int a, l3] S h Q = aW d 147 200 [l0, l1, .int a, l3] (.int a :: S) h Q := ax_iload_n mt147 dX12_readsStep_199 rfl
theorem s147_200 : aW d 147 200 [l0, l1, l2, .int a] S h Q = aW d 147 201 [l0, l1, l2, .int a] (.int a :: S) h Q := ax_iload_n mt147 dX12_readsStep_200 rfl
theorem s147_201 (hT : gT h o = some (14, 54)) : aW (d + 1) 147 201 L (.int x2 :: .int x1 :: .int x0 :: .ref o :: []) h Q = aM d 146 (.ref o :: [.int x0, .int x1, .int x2]) h (fun v h1 => aW (d + 1) 147 204 L (ab_ps v []) h1 Q) := ax_invv mt147 dX12_readsStep_201 (by decide) ct_49304 (.inl rfl) mt146 ⟨⟨Nat.le_of_ble_eq_true rfl, Nat.le_of_ble_eq_true rfl, Nat.le_of_ble_eq_true rfl⟩, rfl, rfl, rfl⟩ hT
theorem s147_204 : aW d 147 204 L (.int a :: S) h Q = (if a = 0 then aW d 147 209 L S h Q else aW d 147 207 L S h Q) := ax_if_eq mt147 dX12_readsStep_204 (by decide)
theorem s147_209 : aW d 147 209 [.ref o, l1, l2, l3] S h Q = aW d 147 210 [.ref o, l1, l2, l3] (.ref o :: S) h Q := ax_aload_n mt147 dX12_readsStep_209 rfl
theorem s147_210 : aW d 147 210 L (.ref o :: S) h Q = aW d 147 211 L (.ref o :: .ref o :: S) h Q := ax_dupa mt147 dX12_readsStep_210
theorem s147_211 (hT : gT h o = some (14, 54)) : aW d 147 211 L (.ref o :: S) h Q = aW d 147 214 L (.int (gI h o 45) :: S) h Q := ax_geti mt147 dX12_readsStep_211 (by decide) ft_49287 fk_49287 hT
theorem s147_214 : aW d 147 214 L S h Q = aW d 147 215 L (.int (nI 1) :: S) h Q := ax_iconst mt147 dX12_readsStep_214 ic_1
theorem s147_215 : aW d 147 215 L (.int b :: .int a :: S) h Q = aW d 147 216 L (.int (a + b) :: S) h Q := ax_iadd mt147 dX12_readsStep_215
theorem s147_216 (hT : gT h o = some (14, 54)) : aW d 147 216 L (.int a :: .ref o :: S) h Q = aW d 147 219 L S (pI h o 45 a) Q := ax_puti mt147 dX12_readsStep_216 (by decide) ft_49287 (fun q => fn_49287 q.1) fp_49287 hT
theorem s147_219 : aW d 147 219 [.ref o, l1, l2, l3] S h Q = aW d 147 220 [.ref o, l1, l2, l3] (.ref o :: S) h Q := ax_aload_n mt147 dX12_readsStep_219 rfl
theorem s147_220 (hT : gT h o = some (14, 54)) : aW d 147 220 L (.ref o :: S) h Q = (isRf (gR h o 23) = true ∧ aW d 147 223 L (gR h o 23 :: S) h Q) := ax_geta mt147 dX12_readsStep_220 (by decide) ft_49220 fk_49220 hT
theorem s147_223 : aW d 147 223 [l0, .int a, l2, l3] S h Q = aW d 147 224 [l0, .int a, l2, l3] (.int a :: S) h Q := ax_iload_n mt147 dX12_readsStep_223 rfl
theorem s147_224 : aW d 147 224 [l0, l1, l2, .int a] S h Q = aW d 147 225 [l0, l1, l2, .int a] (.int a :: S) h Q := ax_iload_n mt147 dX12_readsStep_224 rfl
theorem s147_225 : aW d 147 225 L (.int b :: .int a :: .ref o :: S) h Q = (inb a (aJ h o) ∧ aW d 147 226 L S (pI h o a.toNatClampNeg b) Q) := ax_iast mt147 dX12_readsStep_225
theorem s147_226 : aW d 147 226 [.ref o, l1, l2, l3] S h Q = aW d 147 227 [.ref o, l1, l2, l3] (.ref o :: S) h Q := ax_aload_n mt147 dX12_readsStep_226 rfl
theorem s147_227 (hT : gT h o = some (14, 54)) : aW d 147 227 L (.ref o :: S) h Q = (isRf (gR h o 22) = true ∧ aW d 147 230 L (gR h o 22 :: S) h Q) := ax_geta mt147 dX12_readsStep_227 (by decide) ft_49217 fk_49217 hT
theorem s147_230 : aW d 147 230 [l0, .int a, l2, l3] S h Q = aW d 147 231 [l0, .int a, l2, l3] (.int a :: S) h Q := ax_iload_n mt147 dX12_readsStep_230 rfl
theorem s147_231 : aW d 147 231 [.ref o, l1, l2, l3] S h Q = aW d 147 232 [.ref o, l1, l2, l3] (.ref o :: S) h Q := ax_aload_n mt147 dX12_readsStep_231 rfl
theorem s147_232 (hT : gT h o = some (14, 54)) : aW (d + 1) 147 232 L (.ref o :: [.int y0, .ref q1]) h Q = aM d 142 (.ref o :: []) h (fun v h1 => aW (d + 1) 147 235 L (ab_ps v [.int y0, .ref q1]) h1 Q) := ax_invv mt147 dX12_readsStep_232 (by decide) ct_49294 (.inl rfl) mt142 ⟨⟨Nat.le_of_ble_eq_true rfl, Nat.le_of_ble_eq_true rfl, Nat.le_of_ble_eq_true rfl⟩, rfl, rfl, rfl⟩ hT
theorem s147_235 : aW d 147 235 L (.int b :: .int a :: .ref o :: S) h Q = (inb a (aJ h o) ∧ aW d 147 236 L S (pI h o a.toNatClampNeg b) Q) := ax_iast mt147 dX12_readsStep_235
theorem s147_236 : aW d 147 236 [.ref o, l1, l2, l3] S h Q = aW d 147 237 [.ref o, l1, l2, l3] (.ref o :: S) h Q := ax_aload_n mt147 dX12_readsStep_236 rfl
theorem s147_237 (hT : gT h o = some (14, 54)) : aW d 147 237 L (.ref o :: S) h Q = (isRf (gR h o 22) = true ∧ aW d 147 240 L (gR h o 22 :: S) h Q) := ax_geta mt147 dX12_readsStep_237 (by decide) ft_49217 fk_49217 hT
theorem s147_240 : aW d 147 240 [l0, .int a, l2, l3] S h Q = aW d 147 241 [l0, .int a, l2, l3] (.int a :: S) h Q := ax_iload_n mt147 dX12_readsStep_240 rfl
theorem s147_241 : aW d 147 241 L (.int a :: .ref o :: S) h Q = (inb a (aI h o) ∧ aW d 147 242 L (.int (gI h o a.toNatClampNeg) :: S) h Q) := ax_iald mt147 dX12_readsStep_241
theorem s147_242 : aW d 147 242 L S h Q = aW d 147 243 L (.int ((-1)) :: S) h Q := ax_iconst mt147 dX12_readsStep_242 ic_m1
theorem s147_243 : aW d 147 243 L (.int b :: .int a :: S) h Q = (if a = b then aW d 147 246 L S h Q else aW d 147 248 L S h Q) := ax_icmp_ne mt147 dX12_readsStep_243 (by decide)
theorem s147_246 : aW d 147 246 L S h Q = aW d 147 247 L (.int (nI 0) :: S) h Q := ax_iconst mt147 dX12_readsStep_246 ic_0
theorem s147_247 : aW d 147 247 L [.int a] h Q = (b01 a ∧ Q (some (.int a)) h) := ax_retz mt147 dX12_readsStep_247 rfl
theorem s147_248 : aW d 147 248 [.ref o, l1, l2, l3] S h Q = aW d 147 249 [.ref o, l1, l2, l3] (.ref o :: S) h Q := ax_aload_n mt147 dX12_readsStep_248 rfl
theorem s147_249 : aW d 147 249 L (.ref o :: S) h Q = aW d 147 250 L (.ref o :: .ref o :: S) h Q := ax_dupa mt147 dX12_readsStep_249
theorem s147_250 (hT : gT h o = some (14, 54)) : aW d 147 250 L (.ref o :: S) h Q = aW d 147 253 L (.int (gI h o 15) :: S) h Q := ax_geti mt147 dX12_readsStep_250 (by decide) ft_49301 fk_49301 hT
theorem s147_253 : aW d 147 253 L S h Q = aW d 147 254 L (.int (nI 1) :: S) h Q := ax_iconst mt147 dX12_readsStep_253 ic_1
theorem s147_254 : aW d 147 254 L (.int b :: .int a :: S) h Q = aW d 147 255 L (.int (a + b) :: S) h Q := ax_iadd mt147 dX12_readsStep_254
theorem s147_255 (hT : gT h o = some (14, 54)) : aW d 147 255 L (.int a :: .ref o :: S) h Q = aW d 147 258 L S (pI h o 15 a) Q := ax_puti mt147 dX12_readsStep_255 (by decide) ft_49301 (fun q => fn_49301 q.1) fp_49301 hT
theorem s147_258 : aW d 147 258 L S h Q = aW d 147 259 L (.int (nI 1) :: S) h Q := ax_iconst mt147 dX12_readsStep_258 ic_1
theorem s147_259 : aW d 147 259 L [.int a] h Q = (b01 a ∧ Q (some (.int a)) h) := ax_retz mt147 dX12_readsStep_259 rfl
theorem s147_207 : aW d 147 207 L S h Q = aW d 147 208 L (.int (nI 0) :: S) h Q := ax_iconst mt147 dX12_readsStep_207 ic_0
theorem s147_208 : aW d 147 208 L [.int a] h Q = (b01 a ∧ Q (some (.int a)) h) := ax_retz mt147 dX12_readsStep_208 rfl
-- method 148: BufferRoomModel.readsOne()Z
theorem dX12_readsOne_0 : decode cX12_readsOne 0 = .ok (.aload_n 0, 1) := by decide +kernel
theorem dX12_readsOne_1 : decode cX12_readsOne 1 = .ok (.invokevirtual 138, 3) := by decide +kernel
theorem dX12_readsOne_4 : decode cX12_readsOne 4 = .ok (.istore_n 1, 1) := by decide +kernel
theorem dX12_readsOne_5 : decode cX12_readsOne 5 = .ok (.iconst 0, 1) := by decide +kernel
theorem dX12_readsOne_6 : decode cX12_readsOne 6 = .ok (.istore_n 2, 1) := by decide +kernel
theorem dX12_readsOne_7 : decode cX12_readsOne 7 = .ok (.iload_n 1, 1) := by decide +kernel
theorem dX12_readsOne_8 : decode cX12_readsOne 8 = .ok (.bipush 48, 2) := by decide +kernel
theorem dX12_readsOne_10 : decode cX12_readsOne 10 = .ok (.bipush 53, 2) := by decide +kernel
theorem dX12_readsOne_12 : decode cX12_readsOne 12 = .ok (.invokestatic 125, 3) := by decide +kernel
theorem dX12_readsOne_15 : decode cX12_readsOne 15 = .ok (.ifCond .eq 11, 3) := by decide +kernel
theorem dX12_readsOne_18 : decode cX12_readsOne 18 = .ok (.aload_n 0, 1) := by decide +kernel
theorem dX12_readsOne_19 : decode cX12_readsOne 19 = .ok (.invokevirtual 158, 3) := by decide +kernel
theorem dX12_readsOne_22 : decode cX12_readsOne 22 = .ok (.istore_n 2, 1) := by decide +kernel
theorem dX12_readsOne_23 : decode cX12_readsOne 23 = .ok (.goto 98, 3) := by decide +kernel
theorem dX12_readsOne_26 : decode cX12_readsOne 26 = .ok (.iload_n 1, 1) := by decide +kernel
theorem dX12_readsOne_27 : decode cX12_readsOne 27 = .ok (.bipush 97, 2) := by decide +kernel
theorem dX12_readsOne_29 : decode cX12_readsOne 29 = .ok (.bipush 108, 2) := by decide +kernel
theorem dX12_readsOne_31 : decode cX12_readsOne 31 = .ok (.invokestatic 125, 3) := by decide +kernel
theorem dX12_readsOne_34 : decode cX12_readsOne 34 = .ok (.ifCond .eq 87, 3) := by decide +kernel
theorem dX12_readsOne_37 : decode cX12_readsOne 37 = .ok (.iload_n 1, 1) := by decide +kernel
theorem dX12_readsOne_38 : decode cX12_readsOne 38 = .ok (.bipush 97, 2) := by decide +kernel
theorem dX12_readsOne_40 : decode cX12_readsOne 40 = .ok (.isub, 1) := by decide +kernel
theorem dX12_readsOne_41 : decode cX12_readsOne 41 = .ok (.istore_n 3, 1) := by decide +kernel
theorem dX12_readsOne_42 : decode cX12_readsOne 42 = .ok (.aload_n 0, 1) := by decide +kernel
theorem dX12_readsOne_43 : decode cX12_readsOne 43 = .ok (.getfield 47, 3) := by decide +kernel
theorem dX12_readsOne_46 : decode cX12_readsOne 46 = .ok (.iload_n 3, 1) := by decide +kernel
theorem dX12_readsOne_47 : decode cX12_readsOne 47 = .ok (.baload, 1) := by decide +kernel
theorem dX12_readsOne_48 : decode cX12_readsOne 48 = .ok (.ifCond .eq 14, 3) := by decide +kernel
theorem dX12_readsOne_51 : decode cX12_readsOne 51 = .ok (.aload_n 0, 1) := by decide +kernel
theorem dX12_readsOne_52 : decode cX12_readsOne 52 = .ok (.getfield 59, 3) := by decide +kernel
theorem dX12_readsOne_55 : decode cX12_readsOne 55 = .ok (.iload_n 3, 1) := by decide +kernel
theorem dX12_readsOne_56 : decode cX12_readsOne 56 = .ok (.baload, 1) := by decide +kernel
theorem dX12_readsOne_57 : decode cX12_readsOne 57 = .ok (.ifCond .eq 5, 3) := by decide +kernel
theorem dX12_readsOne_60 : decode cX12_readsOne 60 = .ok (.iconst 0, 1) := by decide +kernel
theorem dX12_readsOne_61 : decode cX12_readsOne 61 = .ok (.ireturn, 1) := by decide +kernel
theorem dX12_readsOne_62 : decode cX12_readsOne 62 = .ok (.aload_n 0, 1) := by decide +kernel
theorem dX12_readsOne_63 : decode cX12_readsOne 63 = .ok (.dup, 1) := by decide +kernel
theorem dX12_readsOne_64 : decode cX12_readsOne 64 = .ok (.getfield 135, 3) := by decide +kernel
theorem dX12_readsOne_67 : decode cX12_readsOne 67 = .ok (.iconst 1, 1) := by decide +kernel
theorem dX12_readsOne_68 : decode cX12_readsOne 68 = .ok (.iadd, 1) := by decide +kernel
theorem dX12_readsOne_69 : decode cX12_readsOne 69 = .ok (.putfield 135, 3) := by decide +kernel
theorem dX12_readsOne_72 : decode cX12_readsOne 72 = .ok (.aload_n 0, 1) := by decide +kernel
theorem dX12_readsOne_73 : decode cX12_readsOne 73 = .ok (.getfield 47, 3) := by decide +kernel
theorem dX12_readsOne_76 : decode cX12_readsOne 76 = .ok (.iload_n 3, 1) := by decide +kernel
theorem dX12_readsOne_77 : decode cX12_readsOne 77 = .ok (.baload, 1) := by decide +kernel
theorem dX12_readsOne_78 : decode cX12_readsOne 78 = .ok (.ifCond .eq 20, 3) := by decide +kernel
theorem dX12_readsOne_81 : decode cX12_readsOne 81 = .ok (.aload_n 0, 1) := by decide +kernel
theorem dX12_readsOne_82 : decode cX12_readsOne 82 = .ok (.bipush 33, 2) := by decide +kernel
theorem dX12_readsOne_84 : decode cX12_readsOne 84 = .ok (.invokevirtual 145, 3) := by decide +kernel
theorem dX12_readsOne_87 : decode cX12_readsOne 87 = .ok (.istore_n 2, 1) := by decide +kernel
theorem dX12_readsOne_88 : decode cX12_readsOne 88 = .ok (.aload_n 0, 1) := by decide +kernel
theorem dX12_readsOne_89 : decode cX12_readsOne 89 = .ok (.getfield 59, 3) := by decide +kernel
theorem dX12_readsOne_92 : decode cX12_readsOne 92 = .ok (.iload_n 3, 1) := by decide +kernel
theorem dX12_readsOne_93 : decode cX12_readsOne 93 = .ok (.iload_n 2, 1) := by decide +kernel
theorem dX12_readsOne_94 : decode cX12_readsOne 94 = .ok (.bastore, 1) := by decide +kernel
theorem dX12_readsOne_95 : decode cX12_readsOne 95 = .ok (.goto 26, 3) := by decide +kernel
theorem dX12_readsOne_98 : decode cX12_readsOne 98 = .ok (.aload_n 0, 1) := by decide +kernel
theorem dX12_readsOne_99 : decode cX12_readsOne 99 = .ok (.bipush 61, 2) := by decide +kernel
theorem dX12_readsOne_101 : decode cX12_readsOne 101 = .ok (.invokevirtual 145, 3) := by decide +kernel
theorem dX12_readsOne_104 : decode cX12_readsOne 104 = .ok (.ifCond .eq 15, 3) := by decide +kernel
theorem dX12_readsOne_107 : decode cX12_readsOne 107 = .ok (.aload_n 0, 1) := by decide +kernel
theorem dX12_readsOne_108 : decode cX12_readsOne 108 = .ok (.iload_n 3, 1) := by decide +kernel
theorem dX12_readsOne_109 : decode cX12_readsOne 109 = .ok (.invokevirtual 162, 3) := by decide +kernel
theorem dX12_readsOne_112 : decode cX12_readsOne 112 = .ok (.ifCond .eq 7, 3) := by decide +kernel
theorem dX12_readsOne_115 : decode cX12_readsOne 115 = .ok (.iconst 1, 1) := by decide +kernel
theorem dX12_readsOne_116 : decode cX12_readsOne 116 = .ok (.goto 4, 3) := by decide +kernel
theorem dX12_readsOne_119 : decode cX12_readsOne 119 = .ok (.iconst 0, 1) := by decide +kernel
theorem dX12_readsOne_120 : decode cX12_readsOne 120 = .ok (.istore_n 2, 1) := by decide +kernel
theorem dX12_readsOne_121 : decode cX12_readsOne 121 = .ok (.iload_n 2, 1) := by decide +kernel
theorem dX12_readsOne_122 : decode cX12_readsOne 122 = .ok (.ifCond .eq 16, 3) := by decide +kernel
theorem dX12_readsOne_125 : decode cX12_readsOne 125 = .ok (.aload_n 0, 1) := by decide +kernel
theorem dX12_readsOne_126 : decode cX12_readsOne 126 = .ok (.bipush 59, 2) := by decide +kernel
theorem dX12_readsOne_128 : decode cX12_readsOne 128 = .ok (.invokevirtual 145, 3) := by decide +kernel
theorem dX12_readsOne_131 : decode cX12_readsOne 131 = .ok (.ifCond .eq 7, 3) := by decide +kernel
theorem dX12_readsOne_134 : decode cX12_readsOne 134 = .ok (.iconst 1, 1) := by decide +kernel
theorem dX12_readsOne_135 : decode cX12_readsOne 135 = .ok (.goto 4, 3) := by decide +kernel
theorem dX12_readsOne_138 : decode cX12_readsOne 138 = .ok (.iconst 0, 1) := by decide +kernel
theorem dX12_readsOne_139 : decode cX12_readsOne 139 = .ok (.ireturn, 1) := by decide +kernel
theorem s148_0 : aW d 148 0 [.ref o, l1, l2, l3] S h Q = aW d 148 1 [.ref o, l1, l2, l3] (.ref o :: S) h Q := ax_aload_n mt148 dX12_readsOne_0 rfl
theorem s148_1 (hT : gT h o = some (14, 54)) : aW (d + 1) 148 1 L (.ref o :: []) h Q = aM d 141 (.ref o :: []) h (fun v h1 => aW (d + 1) 148 4 L (ab_ps v []) h1 Q) := ax_invv mt148 dX12_readsOne_1 (by decide) ct_49290 (.inl rfl) mt141 ⟨⟨Nat.le_of_ble_eq_true rfl, Nat.le_of_ble_eq_true rfl, Nat.le_of_ble_eq_true rfl⟩, rfl, rfl, rfl⟩ hT
theorem s148_4 : aW d 148 4 [l0, l1, l2, l3] (.int a :: S) h Q = aW d 148 5 [l0, .int a, l2, l3] S h Q := ax_istore_n mt148 dX12_readsOne_4 (Nat.le_of_ble_eq_true rfl) rfl
theorem s148_5 : aW d 148 5 L S h Q = aW d 148 6 L (.int (nI 0) :: S) h Q := ax_iconst mt148 dX12_readsOne_5 ic_0
theorem s148_6 : aW d 148 6 [l0, l1, l2, l3] (.int a :: S) h Q = aW d 148 7 [l0, l1, .int a, l3] S h Q := ax_istore_n mt148 dX12_readsOne_6 (Nat.le_of_ble_eq_true rfl) rfl
theorem s148_7 : aW d 148 7 [l0, .int a, l2, l3] S h Q = aW d 148 8 [l0, .int a, l2, l3] (.int a :: S) h Q := ax_iload_n mt148 dX12_readsOne_7 rfl
theorem s148_8 : aW d 148 8 L S h Q = aW d 148 10 L (.int (nI 48) :: S) h Q := ax_bipush mt148 dX12_readsOne_8 bp_48
theorem s148_10 : aW d 148 10 L S h Q = aW d 148 12 L (.int (nI 53) :: S) h Q := ax_bipush mt148 dX12_readsOne_10 bp_53
theorem s148_12 : aW (d + 1) 148 12 L (.int x2 :: .int x1 :: .int x0 :: []) h Q = aM d 139 [.int x0, .int x1, .int x2] h (fun v h1 => aW (d + 1) 148 15 L (ab_ps v []) h1 Q) := ax_invs mt148 dX12_readsOne_12 (by decide) ct_49277 (.inl rfl) mt139 ⟨⟨Nat.le_of_ble_eq_true rfl, Nat.le_of_ble_eq_true rfl, Nat.le_of_ble_eq_true rfl⟩, rfl, rfl⟩
theorem s148_15 : aW d 148 15 L (.int a :: S) h Q = (if a = 0 then aW d 148 26 L S h Q else aW d 148 18 L S h Q) := ax_if_eq mt148 dX12_readsOne_15 (by decide)
theorem s148_18 : aW d 148 18 [.ref o, l1, l2, l3] S h Q = aW d 148 19 [.ref o, l1, l2, l3] (.ref o :: S) h Q := ax_aload_n mt148 dX12_readsOne_18 rfl
theorem s148_19 (hT : gT h o = some (14, 54)) : aW (d + 1) 148 19 L (.ref o :: []) h Q = aM d 147 (.ref o :: []) h (fun v h1 => aW (d + 1) 148 22 L (ab_ps v []) h1 Q) := ax_invv mt148 dX12_readsOne_19 (by decide) ct_49310 (.inl rfl) mt147 ⟨⟨Nat.le_of_ble_eq_true rfl, Nat.le_of_ble_eq_true rfl, Nat.le_of_ble_eq_true rfl⟩, rfl, rfl, rfl⟩ hT
theorem s148_22 : aW d 148 22 [l0, l1, l2, l3] (.int a :: S) h Q = aW d 148 23 [l0, l1, .int a, l3] S h Q := ax_istore_n mt148 dX12_readsOne_22 (Nat.le_of_ble_eq_true rfl) rfl
theorem s148_23 : aW d 148 23 L S h Q = aW d 148 121 L S h Q := ax_goto mt148 dX12_readsOne_23 (by decide)
theorem s148_121 : aW d 148 121 [l0, l1, .int a, l3] S h Q = aW d 148 122 [l0, l1, .int a, l3] (.int a :: S) h Q := ax_iload_n mt148 dX12_readsOne_121 rfl
theorem s148_122 : aW d 148 122 L (.int a :: S) h Q = (if a = 0 then aW d 148 138 L S h Q else aW d 148 125 L S h Q) := ax_if_eq mt148 dX12_readsOne_122 (by decide)
theorem s148_125 : aW d 148 125 [.ref o, l1, l2, l3] S h Q = aW d 148 126 [.ref o, l1, l2, l3] (.ref o :: S) h Q := ax_aload_n mt148 dX12_readsOne_125 rfl
theorem s148_126 : aW d 148 126 L S h Q = aW d 148 128 L (.int (nI 59) :: S) h Q := ax_bipush mt148 dX12_readsOne_126 bp_59
theorem s148_128 (hT : gT h o = some (14, 54)) : aW (d + 1) 148 128 L (.int x0 :: .ref o :: []) h Q = aM d 143 (.ref o :: [.int x0]) h (fun v h1 => aW (d + 1) 148 131 L (ab_ps v []) h1 Q) := ax_invv mt148 dX12_readsOne_128 (by decide) ct_49297 (.inl rfl) mt143 ⟨⟨Nat.le_of_ble_eq_true rfl, Nat.le_of_ble_eq_true rfl, Nat.le_of_ble_eq_true rfl⟩, rfl, rfl, rfl⟩ hT
theorem s148_131 : aW d 148 131 L (.int a :: S) h Q = (if a = 0 then aW d 148 138 L S h Q else aW d 148 134 L S h Q) := ax_if_eq mt148 dX12_readsOne_131 (by decide)
theorem s148_134 : aW d 148 134 L S h Q = aW d 148 135 L (.int (nI 1) :: S) h Q := ax_iconst mt148 dX12_readsOne_134 ic_1
theorem s148_135 : aW d 148 135 L S h Q = aW d 148 139 L S h Q := ax_goto mt148 dX12_readsOne_135 (by decide)
theorem s148_139 : aW d 148 139 L [.int a] h Q = (b01 a ∧ Q (some (.int a)) h) := ax_retz mt148 dX12_readsOne_139 rfl
theorem s148_138 : aW d 148 138 L S h Q = aW d 148 139 L (.int (nI 0) :: S) h Q := ax_iconst mt148 dX12_readsOne_138 ic_0
theorem s148_26 : aW d 148 26 [l0, .int a, l2, l3] S h Q = aW d 148 27 [l0, .int a, l2, l3] (.int a :: S) h Q := ax_iload_n mt148 dX12_readsOne_26 rfl
theorem s148_27 : aW d 148 27 L S h Q = aW d 148 29 L (.int (nI 97) :: S) h Q := ax_bipush mt148 dX12_readsOne_27 bp_97
theorem s148_29 : aW d 148 29 L S h Q = aW d 148 31 L (.int (nI 108) :: S) h Q := ax_bipush mt148 dX12_readsOne_29 bp_108
theorem s148_31 : aW (d + 1) 148 31 L (.int x2 :: .int x1 :: .int x0 :: []) h Q = aM d 139 [.int x0, .int x1, .int x2] h (fun v h1 => aW (d + 1) 148 34 L (ab_ps v []) h1 Q) := ax_invs mt148 dX12_readsOne_31 (by decide) ct_49277 (.inl rfl) mt139 ⟨⟨Nat.le_of_ble_eq_true rfl, Nat.le_of_ble_eq_true rfl, Nat.le_of_ble_eq_true rfl⟩, rfl, rfl⟩
theorem s148_34 : aW d 148 34 L (.int a :: S) h Q = (if a = 0 then aW d 148 121 L S h Q else aW d 148 37 L S h Q) := ax_if_eq mt148 dX12_readsOne_34 (by decide)
theorem s148_37 : aW d 148 37 [l0, .int a, l2, l3] S h Q = aW d 148 38 [l0, .int a, l2, l3] (.int a :: S) h Q := ax_iload_n mt148 dX12_readsOne_37 rfl
theorem s148_38 : aW d 148 38 L S h Q = aW d 148 40 L (.int (nI 97) :: S) h Q := ax_bipush mt148 dX12_readsOne_38 bp_97
theorem s148_40 : aW d 148 40 L (.int b :: .int a :: S) h Q = aW d 148 41 L (.int (a - b) :: S) h Q := ax_isub mt148 dX12_readsOne_40
theorem s148_41 : aW d 148 41 [l0, l1, l2, l3] (.int a :: S) h Q = aW d 148 42 [l0, l1, l2, .int a] S h Q := ax_istore_n mt148 dX12_readsOne_41 (Nat.le_of_ble_eq_true rfl) rfl
theorem s148_42 : aW d 148 42 [.ref o, l1, l2, l3] S h Q = aW d 148 43 [.ref o, l1, l2, l3] (.ref o :: S) h Q := ax_aload_n mt148 dX12_readsOne_42 rfl
theorem s148_43 (hT : gT h o = some (14, 54)) : aW d 148 43 L (.ref o :: S) h Q = (isRf (gR h o 16) = true ∧ aW d 148 46 L (gR h o 16 :: S) h Q) := ax_geta mt148 dX12_readsOne_43 (by decide) ft_49199 fk_49199 hT
theorem s148_46 : aW d 148 46 [l0, l1, l2, .int a] S h Q = aW d 148 47 [l0, l1, l2, .int a] (.int a :: S) h Q := ax_iload_n mt148 dX12_readsOne_46 rfl
theorem s148_47 : aW d 148 47 L (.int a :: .ref o :: S) h Q = (inb a (aZ h o) ∧ aW d 148 48 L (.int (gI h o a.toNatClampNeg) :: S) h Q) := ax_zald mt148 dX12_readsOne_47
theorem s148_48 : aW d 148 48 L (.int a :: S) h Q = (if a = 0 then aW d 148 62 L S h Q else aW d 148 51 L S h Q) := ax_if_eq mt148 dX12_readsOne_48 (by decide)
theorem s148_51 : aW d 148 51 [.ref o, l1, l2, l3] S h Q = aW d 148 52 [.ref o, l1, l2, l3] (.ref o :: S) h Q := ax_aload_n mt148 dX12_readsOne_51 rfl
theorem s148_52 (hT : gT h o = some (14, 54)) : aW d 148 52 L (.ref o :: S) h Q = (isRf (gR h o 20) = true ∧ aW d 148 55 L (gR h o 20 :: S) h Q) := ax_geta mt148 dX12_readsOne_52 (by decide) ft_49211 fk_49211 hT
theorem s148_55 : aW d 148 55 [l0, l1, l2, .int a] S h Q = aW d 148 56 [l0, l1, l2, .int a] (.int a :: S) h Q := ax_iload_n mt148 dX12_readsOne_55 rfl
theorem s148_56 : aW d 148 56 L (.int a :: .ref o :: S) h Q = (inb a (aZ h o) ∧ aW d 148 57 L (.int (gI h o a.toNatClampNeg) :: S) h Q) := ax_zald mt148 dX12_readsOne_56
theorem s148_57 : aW d 148 57 L (.int a :: S) h Q = (if a = 0 then aW d 148 62 L S h Q else aW d 148 60 L S h Q) := ax_if_eq mt148 dX12_readsOne_57 (by decide)
theorem s148_60 : aW d 148 60 L S h Q = aW d 148 61 L (.int (nI 0) :: S) h Q := ax_iconst mt148 dX12_readsOne_60 ic_0
theorem s148_61 : aW d 148 61 L [.int a] h Q = (b01 a ∧ Q (some (.int a)) h) := ax_retz mt148 dX12_readsOne_61 rfl
theorem s148_62 : aW d 148 62 [.ref o, l1, l2, l3] S h Q = aW d 148 63 [.ref o, l1, l2, l3] (.ref o :: S) h Q := ax_aload_n mt148 dX12_readsOne_62 rfl
theorem s148_63 : aW d 148 63 L (.ref o :: S) h Q = aW d 148 64 L (.ref o :: .ref o :: S) h Q := ax_dupa mt148 dX12_readsOne_63
theorem s148_64 (hT : gT h o = some (14, 54)) : aW d 148 64 L (.ref o :: S) h Q = aW d 148 67 L (.int (gI h o 45) :: S) h Q := ax_geti mt148 dX12_readsOne_64 (by decide) ft_49287 fk_49287 hT
theorem s148_67 : aW d 148 67 L S h Q = aW d 148 68 L (.int (nI 1) :: S) h Q := ax_iconst mt148 dX12_readsOne_67 ic_1
theorem s148_68 : aW d 148 68 L (.int b :: .int a :: S) h Q = aW d 148 69 L (.int (a + b) :: S) h Q := ax_iadd mt148 dX12_readsOne_68
theorem s148_69 (hT : gT h o = some (14, 54)) : aW d 148 69 L (.int a :: .ref o :: S) h Q = aW d 148 72 L S (pI h o 45 a) Q := ax_puti mt148 dX12_readsOne_69 (by decide) ft_49287 (fun q => fn_49287 q.1) fp_49287 hT
theorem s148_72 : aW d 148 72 [.ref o, l1, l2, l3] S h Q = aW d 148 73 [.ref o, l1, l2, l3] (.ref o :: S) h Q := ax_aload_n mt148 dX12_readsOne_72 rfl
theorem s148_73 (hT : gT h o = some (14, 54)) : aW d 148 73 L (.ref o :: S) h Q = (isRf (gR h o 16) = true ∧ aW d 148 76 L (gR h o 16 :: S) h Q) := ax_geta mt148 dX12_readsOne_73 (by decide) ft_49199 fk_49199 hT
theorem s148_76 : aW d 148 76 [l0, l1, l2, .int a] S h Q = aW d 148 77 [l0, l1, l2, .int a] (.int a :: S) h Q := ax_iload_n mt148 dX12_readsOne_76 rfl
theorem s148_77 : aW d 148 77 L (.int a :: .ref o :: S) h Q = (inb a (aZ h o) ∧ aW d 148 78 L (.int (gI h o a.toNatClampNeg) :: S) h Q) := ax_zald mt148 dX12_readsOne_77
theorem s148_78 : aW d 148 78 L (.int a :: S) h Q = (if a = 0 then aW d 148 98 L S h Q else aW d 148 81 L S h Q) := ax_if_eq mt148 dX12_readsOne_78 (by decide)
theorem s148_81 : aW d 148 81 [.ref o, l1, l2, l3] S h Q = aW d 148 82 [.ref o, l1, l2, l3] (.ref o :: S) h Q := ax_aload_n mt148 dX12_readsOne_81 rfl
theorem s148_82 : aW d 148 82 L S h Q = aW d 148 84 L (.int (nI 33) :: S) h Q := ax_bipush mt148 dX12_readsOne_82 bp_33
theorem s148_84 (hT : gT h o = some (14, 54)) : aW (d + 1) 148 84 L (.int x0 :: .ref o :: []) h Q = aM d 143 (.ref o :: [.int x0]) h (fun v h1 => aW (d + 1) 148 87 L (ab_ps v []) h1 Q) := ax_invv mt148 dX12_readsOne_84 (by decide) ct_49297 (.inl rfl) mt143 ⟨⟨Nat.le_of_ble_eq_true rfl, Nat.le_of_ble_eq_true rfl, Nat.le_of_ble_eq_true rfl⟩, rfl, rfl, rfl⟩ hT
theorem s148_87 : aW d 148 87 [l0, l1, l2, l3] (.int a :: S) h Q = aW d 148 88 [l0, l1, .int a, l3] S h Q := ax_istore_n mt148 dX12_readsOne_87 (Nat.le_of_ble_eq_true rfl) rfl
theorem s148_88 : aW d 148 88 [.ref o, l1, l2, l3] S h Q = aW d 148 89 [.ref o, l1, l2, l3] (.ref o :: S) h Q := ax_aload_n mt148 dX12_readsOne_88 rfl
theorem s148_89 (hT : gT h o = some (14, 54)) : aW d 148 89 L (.ref o :: S) h Q = (isRf (gR h o 20) = true ∧ aW d 148 92 L (gR h o 20 :: S) h Q) := ax_geta mt148 dX12_readsOne_89 (by decide) ft_49211 fk_49211 hT
theorem s148_92 : aW d 148 92 [l0, l1, l2, .int a] S h Q = aW d 148 93 [l0, l1, l2, .int a] (.int a :: S) h Q := ax_iload_n mt148 dX12_readsOne_92 rfl
theorem s148_93 : aW d 148 93 [l0, l1, .int a, l3] S h Q = aW d 148 94 [l0, l1, .int a, l3] (.int a :: S) h Q := ax_iload_n mt148 dX12_readsOne_93 rfl
theorem s148_94 : aW d 148 94 L (.int b :: .int a :: .ref o :: S) h Q = ((inb a (aZ h o) ∧ b01 b) ∧ aW d 148 95 L S (pI h o a.toNatClampNeg b) Q) := ax_zast mt148 dX12_readsOne_94
theorem s148_95 : aW d 148 95 L S h Q = aW d 148 121 L S h Q := ax_goto mt148 dX12_readsOne_95 (by decide)
theorem s148_98 : aW d 148 98 [.ref o, l1, l2, l3] S h Q = aW d 148 99 [.ref o, l1, l2, l3] (.ref o :: S) h Q := ax_aload_n mt148 dX12_readsOne_98 rfl
theorem s148_99 : aW d 148 99 L S h Q = aW d 148 101 L (.int (nI 61) :: S) h Q := ax_bipush mt148 dX12_readsOne_99 bp_61
theorem s148_101 (hT : gT h o = some (14, 54)) : aW (d + 1) 148 101 L (.int x0 :: .ref o :: []) h Q = aM d 143 (.ref o :: [.int x0]) h (fun v h1 => aW (d + 1) 148 104 L (ab_ps v []) h1 Q) := ax_invv mt148 dX12_readsOne_101 (by decide) ct_49297 (.inl rfl) mt143 ⟨⟨Nat.le_of_ble_eq_true rfl, Nat.le_of_ble_eq_true rfl, Nat.le_of_ble_eq_true rfl⟩, rfl, rfl, rfl⟩ hT
theorem s148_104 : aW d 148 104 L (.int a :: S) h Q = (if a = 0 then aW d 148 119 L S h Q else aW d 148 107 L S h Q) := ax_if_eq mt148 dX12_readsOne_104 (by decide)
theorem s148_107 : aW d 148 107 [.ref o, l1, l2, l3] S h Q = aW d 148 108 [.ref o, l1, l2, l3] (.ref o :: S) h Q := ax_aload_n mt148 dX12_readsOne_107 rfl
theorem s148_108 : aW d 148 108 [l0, l1, l2, .int a] S h Q = aW d 148 109 [l0, l1, l2, .int a] (.int a :: S) h Q := ax_iload_n mt148 dX12_readsOne_108 rfl
theorem s148_109 (hT : gT h o = some (14, 54)) : aW (d + 1) 148 109 L (.int x0 :: .ref o :: []) h Q = aM d 144 (.ref o :: [.int x0]) h (fun v h1 => aW (d + 1) 148 112 L (ab_ps v []) h1 Q) := ax_invv mt148 dX12_readsOne_109 (by decide) ct_49314 (.inl rfl) mt144 ⟨⟨Nat.le_of_ble_eq_true rfl, Nat.le_of_ble_eq_true rfl, Nat.le_of_ble_eq_true rfl⟩, rfl, rfl, rfl⟩ hT
theorem s148_112 : aW d 148 112 L (.int a :: S) h Q = (if a = 0 then aW d 148 119 L S h Q else aW d 148 115 L S h Q) := ax_if_eq mt148 dX12_readsOne_112 (by decide)
theorem s148_115 : aW d 148 115 L S h Q = aW d 148 116 L (.int (nI 1) :: S) h Q := ax_iconst mt148 dX12_readsOne_115 ic_1
theorem s148_116 : aW d 148 116 L S h Q = aW d 148 120 L S h Q := ax_goto mt148 dX12_readsOne_116 (by decide)
theorem s148_120 : aW d 148 120 [l0, l1, l2, l3] (.int a :: S) h Q = aW d 148 121 [l0, l1, .int a, l3] S h Q := ax_istore_n mt148 dX12_readsOne_120 (Nat.le_of_ble_eq_true rfl) rfl
theorem s148_119 : aW d 148 119 L S h Q = aW d 148 120 L (.int (nI 0) :: S) h Q := ax_iconst mt148 dX12_readsOne_119 ic_0
-- method 149: BufferRoomModel.begins()V
theorem dX12_begins_0 : decode cX12_begins 0 = .ok (.aload_n 0, 1) := by decide +kernel
theorem dX12_begins_1 : decode cX12_begins 1 = .ok (.iconst 0, 1) := by decide +kernel
theorem dX12_begins_2 : decode cX12_begins 2 = .ok (.putfield 149, 3) := by decide +kernel
theorem dX12_begins_5 : decode cX12_begins 5 = .ok (.iconst 0, 1) := by decide +kernel
theorem dX12_begins_6 : decode cX12_begins 6 = .ok (.istore_n 1, 1) := by decide +kernel
theorem dX12_begins_7 : decode cX12_begins 7 = .ok (.iload_n 1, 1) := by decide +kernel
theorem dX12_begins_8 : decode cX12_begins 8 = .ok (.bipush 12, 2) := by decide +kernel
theorem dX12_begins_10 : decode cX12_begins 10 = .ok (.if_icmp .ge 30, 3) := by decide +kernel
theorem dX12_begins_13 : decode cX12_begins 13 = .ok (.aload_n 0, 1) := by decide +kernel
theorem dX12_begins_14 : decode cX12_begins 14 = .ok (.getfield 47, 3) := by decide +kernel
theorem dX12_begins_17 : decode cX12_begins 17 = .ok (.iload_n 1, 1) := by decide +kernel
theorem dX12_begins_18 : decode cX12_begins 18 = .ok (.iconst 0, 1) := by decide +kernel
theorem dX12_begins_19 : decode cX12_begins 19 = .ok (.bastore, 1) := by decide +kernel
theorem dX12_begins_20 : decode cX12_begins 20 = .ok (.aload_n 0, 1) := by decide +kernel
theorem dX12_begins_21 : decode cX12_begins 21 = .ok (.getfield 59, 3) := by decide +kernel
theorem dX12_begins_24 : decode cX12_begins 24 = .ok (.iload_n 1, 1) := by decide +kernel
theorem dX12_begins_25 : decode cX12_begins 25 = .ok (.iconst 0, 1) := by decide +kernel
theorem dX12_begins_26 : decode cX12_begins 26 = .ok (.bastore, 1) := by decide +kernel
theorem dX12_begins_27 : decode cX12_begins 27 = .ok (.aload_n 0, 1) := by decide +kernel
theorem dX12_begins_28 : decode cX12_begins 28 = .ok (.getfield 50, 3) := by decide +kernel
theorem dX12_begins_31 : decode cX12_begins 31 = .ok (.iload_n 1, 1) := by decide +kernel
theorem dX12_begins_32 : decode cX12_begins 32 = .ok (.iconst 0, 1) := by decide +kernel
theorem dX12_begins_33 : decode cX12_begins 33 = .ok (.iastore, 1) := by decide +kernel
theorem dX12_begins_34 : decode cX12_begins 34 = .ok (.iinc 1 1, 3) := by decide +kernel
theorem dX12_begins_37 : decode cX12_begins 37 = .ok (.goto (-30), 3) := by decide +kernel
theorem dX12_begins_40 : decode cX12_begins 40 = .ok (.return_, 1) := by decide +kernel
theorem s149_0 : aW d 149 0 [.ref o, l1] S h Q = aW d 149 1 [.ref o, l1] (.ref o :: S) h Q := ax_aload_n mt149 dX12_begins_0 rfl
theorem s149_1 : aW d 149 1 L S h Q = aW d 149 2 L (.int (nI 0) :: S) h Q := ax_iconst mt149 dX12_begins_1 ic_0
theorem s149_2 (hT : gT h o = some (14, 54)) : aW d 149 2 L (.int a :: .ref o :: S) h Q = aW d 149 5 L S (pI h o 15 a) Q := ax_puti mt149 dX12_begins_2 (by decide) ft_49301 (fun q => fn_49301 q.1) fp_49301 hT
theorem s149_5 : aW d 149 5 L S h Q = aW d 149 6 L (.int (nI 0) :: S) h Q := ax_iconst mt149 dX12_begins_5 ic_0
theorem s149_6 : aW d 149 6 [l0, l1] (.int a :: S) h Q = aW d 149 7 [l0, .int a] S h Q := ax_istore_n mt149 dX12_begins_6 (Nat.le_of_ble_eq_true rfl) rfl
theorem s149_7 : aW d 149 7 [l0, .int a] S h Q = aW d 149 8 [l0, .int a] (.int a :: S) h Q := ax_iload_n mt149 dX12_begins_7 rfl
theorem s149_8 : aW d 149 8 L S h Q = aW d 149 10 L (.int (nI 12) :: S) h Q := ax_bipush mt149 dX12_begins_8 bp_12
theorem s149_10 : aW d 149 10 L (.int b :: .int a :: S) h Q = (if a < b then aW d 149 13 L S h Q else aW d 149 40 L S h Q) := ax_icmp_ge mt149 dX12_begins_10 (by decide)
theorem s149_13 : aW d 149 13 [.ref o, l1] S h Q = aW d 149 14 [.ref o, l1] (.ref o :: S) h Q := ax_aload_n mt149 dX12_begins_13 rfl
theorem s149_14 (hT : gT h o = some (14, 54)) : aW d 149 14 L (.ref o :: S) h Q = (isRf (gR h o 16) = true ∧ aW d 149 17 L (gR h o 16 :: S) h Q) := ax_geta mt149 dX12_begins_14 (by decide) ft_49199 fk_49199 hT
theorem s149_17 : aW d 149 17 [l0, .int a] S h Q = aW d 149 18 [l0, .int a] (.int a :: S) h Q := ax_iload_n mt149 dX12_begins_17 rfl
theorem s149_18 : aW d 149 18 L S h Q = aW d 149 19 L (.int (nI 0) :: S) h Q := ax_iconst mt149 dX12_begins_18 ic_0
theorem s149_19 : aW d 149 19 L (.int b :: .int a :: .ref o :: S) h Q = ((inb a (aZ h o) ∧ b01 b) ∧ aW d 149 20 L S (pI h o a.toNatClampNeg b) Q) := ax_zast mt149 dX12_begins_19
theorem s149_20 : aW d 149 20 [.ref o, l1] S h Q = aW d 149 21 [.ref o, l1] (.ref o :: S) h Q := ax_aload_n mt149 dX12_begins_20 rfl
theorem s149_21 (hT : gT h o = some (14, 54)) : aW d 149 21 L (.ref o :: S) h Q = (isRf (gR h o 20) = true ∧ aW d 149 24 L (gR h o 20 :: S) h Q) := ax_geta mt149 dX12_begins_21 (by decide) ft_49211 fk_49211 hT
theorem s149_24 : aW d 149 24 [l0, .int a] S h Q = aW d 149 25 [l0, .int a] (.int a :: S) h Q := ax_iload_n mt149 dX12_begins_24 rfl
theorem s149_25 : aW d 149 25 L S h Q = aW d 149 26 L (.int (nI 0) :: S) h Q := ax_iconst mt149 dX12_begins_25 ic_0
theorem s149_26 : aW d 149 26 L (.int b :: .int a :: .ref o :: S) h Q = ((inb a (aZ h o) ∧ b01 b) ∧ aW d 149 27 L S (pI h o a.toNatClampNeg b) Q) := ax_zast mt149 dX12_begins_26
theorem s149_27 : aW d 149 27 [.ref o, l1] S h Q = aW d 149 28 [.ref o, l1] (.ref o :: S) h Q := ax_aload_n mt149 dX12_begins_27 rfl
theorem s149_28 (hT : gT h o = some (14, 54)) : aW d 149 28 L (.ref o :: S) h Q = (isRf (gR h o 17) = true ∧ aW d 149 31 L (gR h o 17 :: S) h Q) := ax_geta mt149 dX12_begins_28 (by decide) ft_49202 fk_49202 hT
theorem s149_31 : aW d 149 31 [l0, .int a] S h Q = aW d 149 32 [l0, .int a] (.int a :: S) h Q := ax_iload_n mt149 dX12_begins_31 rfl
theorem s149_32 : aW d 149 32 L S h Q = aW d 149 33 L (.int (nI 0) :: S) h Q := ax_iconst mt149 dX12_begins_32 ic_0
theorem s149_33 : aW d 149 33 L (.int b :: .int a :: .ref o :: S) h Q = (inb a (aJ h o) ∧ aW d 149 34 L S (pI h o a.toNatClampNeg b) Q) := ax_iast mt149 dX12_begins_33
theorem s149_34 : aW d 149 34 [l0, .int a] S h Q = aW d 149 37 [l0, .int (a + nI 1)] S h Q := ax_iinc mt149 dX12_begins_34 rfl ic_1 rfl
theorem s149_37 : aW d 149 37 L S h Q = aW d 149 7 L S h Q := ax_goto mt149 dX12_begins_37 (by decide)
theorem s149_40 : aW d 149 40 L [] h Q = Q none h := ax_retv mt149 dX12_begins_40 rfl
-- method 150: BufferRoomModel.takes()V
theorem dX12_takes_0 : decode cX12_takes 0 = .ok (.aload_n 0, 1) := by decide +kernel
theorem dX12_takes_1 : decode cX12_takes 1 = .ok (.aload_n 0, 1) := by decide +kernel
theorem dX12_takes_2 : decode cX12_takes 2 = .ok (.getfield 149, 3) := by decide +kernel
theorem dX12_takes_5 : decode cX12_takes 5 = .ok (.putfield 165, 3) := by decide +kernel
theorem dX12_takes_8 : decode cX12_takes 8 = .ok (.iconst 0, 1) := by decide +kernel
theorem dX12_takes_9 : decode cX12_takes 9 = .ok (.istore_n 1, 1) := by decide +kernel
theorem dX12_takes_10 : decode cX12_takes 10 = .ok (.iload_n 1, 1) := by decide +kernel
theorem dX12_takes_11 : decode cX12_takes 11 = .ok (.bipush 12, 2) := by decide +kernel
theorem dX12_takes_13 : decode cX12_takes 13 = .ok (.if_icmp .ge 105, 3) := by decide +kernel
theorem dX12_takes_16 : decode cX12_takes 16 = .ok (.aload_n 0, 1) := by decide +kernel
theorem dX12_takes_17 : decode cX12_takes 17 = .ok (.getfield 16, 3) := by decide +kernel
theorem dX12_takes_20 : decode cX12_takes 20 = .ok (.iload_n 1, 1) := by decide +kernel
theorem dX12_takes_21 : decode cX12_takes 21 = .ok (.aload_n 0, 1) := by decide +kernel
theorem dX12_takes_22 : decode cX12_takes 22 = .ok (.getfield 47, 3) := by decide +kernel
theorem dX12_takes_25 : decode cX12_takes 25 = .ok (.iload_n 1, 1) := by decide +kernel
theorem dX12_takes_26 : decode cX12_takes 26 = .ok (.baload, 1) := by decide +kernel
theorem dX12_takes_27 : decode cX12_takes 27 = .ok (.bastore, 1) := by decide +kernel
theorem dX12_takes_28 : decode cX12_takes 28 = .ok (.aload_n 0, 1) := by decide +kernel
theorem dX12_takes_29 : decode cX12_takes 29 = .ok (.getfield 29, 3) := by decide +kernel
theorem dX12_takes_32 : decode cX12_takes 32 = .ok (.iload_n 1, 1) := by decide +kernel
theorem dX12_takes_33 : decode cX12_takes 33 = .ok (.aload_n 0, 1) := by decide +kernel
theorem dX12_takes_34 : decode cX12_takes 34 = .ok (.getfield 59, 3) := by decide +kernel
theorem dX12_takes_37 : decode cX12_takes 37 = .ok (.iload_n 1, 1) := by decide +kernel
theorem dX12_takes_38 : decode cX12_takes 38 = .ok (.baload, 1) := by decide +kernel
theorem dX12_takes_39 : decode cX12_takes 39 = .ok (.bastore, 1) := by decide +kernel
theorem dX12_takes_40 : decode cX12_takes 40 = .ok (.aload_n 0, 1) := by decide +kernel
theorem dX12_takes_41 : decode cX12_takes 41 = .ok (.getfield 20, 3) := by decide +kernel
theorem dX12_takes_44 : decode cX12_takes 44 = .ok (.iload_n 1, 1) := by decide +kernel
theorem dX12_takes_45 : decode cX12_takes 45 = .ok (.aload_n 0, 1) := by decide +kernel
theorem dX12_takes_46 : decode cX12_takes 46 = .ok (.getfield 50, 3) := by decide +kernel
theorem dX12_takes_49 : decode cX12_takes 49 = .ok (.iload_n 1, 1) := by decide +kernel
theorem dX12_takes_50 : decode cX12_takes 50 = .ok (.iaload, 1) := by decide +kernel
theorem dX12_takes_51 : decode cX12_takes 51 = .ok (.iastore, 1) := by decide +kernel
theorem dX12_takes_52 : decode cX12_takes 52 = .ok (.aload_n 0, 1) := by decide +kernel
theorem dX12_takes_53 : decode cX12_takes 53 = .ok (.getfield 80, 3) := by decide +kernel
theorem dX12_takes_56 : decode cX12_takes 56 = .ok (.iload_n 1, 1) := by decide +kernel
theorem dX12_takes_57 : decode cX12_takes 57 = .ok (.iconst (-1), 1) := by decide +kernel
theorem dX12_takes_58 : decode cX12_takes 58 = .ok (.iastore, 1) := by decide +kernel
theorem dX12_takes_59 : decode cX12_takes 59 = .ok (.iconst 0, 1) := by decide +kernel
theorem dX12_takes_60 : decode cX12_takes 60 = .ok (.istore_n 2, 1) := by decide +kernel
theorem dX12_takes_61 : decode cX12_takes 61 = .ok (.iload_n 2, 1) := by decide +kernel
theorem dX12_takes_62 : decode cX12_takes 62 = .ok (.iconst 4, 1) := by decide +kernel
theorem dX12_takes_63 : decode cX12_takes 63 = .ok (.if_icmp .ge 49, 3) := by decide +kernel
theorem dX12_takes_66 : decode cX12_takes 66 = .ok (.aload_n 0, 1) := by decide +kernel
theorem dX12_takes_67 : decode cX12_takes 67 = .ok (.getfield 23, 3) := by decide +kernel
theorem dX12_takes_70 : decode cX12_takes 70 = .ok (.iconst 4, 1) := by decide +kernel
theorem dX12_takes_71 : decode cX12_takes 71 = .ok (.iload_n 1, 1) := by decide +kernel
theorem dX12_takes_72 : decode cX12_takes 72 = .ok (.imul, 1) := by decide +kernel
theorem dX12_takes_73 : decode cX12_takes 73 = .ok (.iload_n 2, 1) := by decide +kernel
theorem dX12_takes_74 : decode cX12_takes 74 = .ok (.iadd, 1) := by decide +kernel
theorem dX12_takes_75 : decode cX12_takes 75 = .ok (.aload_n 0, 1) := by decide +kernel
theorem dX12_takes_76 : decode cX12_takes 76 = .ok (.getfield 53, 3) := by decide +kernel
theorem dX12_takes_79 : decode cX12_takes 79 = .ok (.iconst 4, 1) := by decide +kernel
theorem dX12_takes_80 : decode cX12_takes 80 = .ok (.iload_n 1, 1) := by decide +kernel
theorem dX12_takes_81 : decode cX12_takes 81 = .ok (.imul, 1) := by decide +kernel
theorem dX12_takes_82 : decode cX12_takes 82 = .ok (.iload_n 2, 1) := by decide +kernel
theorem dX12_takes_83 : decode cX12_takes 83 = .ok (.iadd, 1) := by decide +kernel
theorem dX12_takes_84 : decode cX12_takes 84 = .ok (.iaload, 1) := by decide +kernel
theorem dX12_takes_85 : decode cX12_takes 85 = .ok (.iastore, 1) := by decide +kernel
theorem dX12_takes_86 : decode cX12_takes 86 = .ok (.aload_n 0, 1) := by decide +kernel
theorem dX12_takes_87 : decode cX12_takes 87 = .ok (.getfield 26, 3) := by decide +kernel
theorem dX12_takes_90 : decode cX12_takes 90 = .ok (.iconst 4, 1) := by decide +kernel
theorem dX12_takes_91 : decode cX12_takes 91 = .ok (.iload_n 1, 1) := by decide +kernel
theorem dX12_takes_92 : decode cX12_takes 92 = .ok (.imul, 1) := by decide +kernel
theorem dX12_takes_93 : decode cX12_takes 93 = .ok (.iload_n 2, 1) := by decide +kernel
theorem dX12_takes_94 : decode cX12_takes 94 = .ok (.iadd, 1) := by decide +kernel
theorem dX12_takes_95 : decode cX12_takes 95 = .ok (.aload_n 0, 1) := by decide +kernel
theorem dX12_takes_96 : decode cX12_takes 96 = .ok (.getfield 56, 3) := by decide +kernel
theorem dX12_takes_99 : decode cX12_takes 99 = .ok (.iconst 4, 1) := by decide +kernel
theorem dX12_takes_100 : decode cX12_takes 100 = .ok (.iload_n 1, 1) := by decide +kernel
theorem dX12_takes_101 : decode cX12_takes 101 = .ok (.imul, 1) := by decide +kernel
theorem dX12_takes_102 : decode cX12_takes 102 = .ok (.iload_n 2, 1) := by decide +kernel
theorem dX12_takes_103 : decode cX12_takes 103 = .ok (.iadd, 1) := by decide +kernel
theorem dX12_takes_104 : decode cX12_takes 104 = .ok (.iaload, 1) := by decide +kernel
theorem dX12_takes_105 : decode cX12_takes 105 = .ok (.iastore, 1) := by decide +kernel
theorem dX12_takes_106 : decode cX12_takes 106 = .ok (.iinc 2 1, 3) := by decide +kernel
theorem dX12_takes_109 : decode cX12_takes 109 = .ok (.goto (-48), 3) := by decide +kernel
theorem dX12_takes_112 : decode cX12_takes 112 = .ok (.iinc 1 1, 3) := by decide +kernel
theorem dX12_takes_115 : decode cX12_takes 115 = .ok (.goto (-105), 3) := by decide +kernel
theorem dX12_takes_118 : decode cX12_takes 118 = .ok (.iconst 0, 1) := by decide +kernel
theorem dX12_takes_119 : decode cX12_takes 119 = .ok (.istore_n 1, 1) := by decide +kernel
theorem dX12_takes_120 : decode cX12_takes 120 = .ok (.iload_n 1, 1) := by decide +kernel
theorem dX12_takes_121 : decode cX12_takes 121 = .ok (.aload_n 0, 1) := by decide +kernel
theorem dX12_takes_122 : decode cX12_takes 122 = .ok (.getfield 165, 3) := by decide +kernel
theorem dX12_takes_125 : decode cX12_takes 125 = .ok (.if_icmp .ge 90, 3) := by decide +kernel
theorem dX12_takes_128 : decode cX12_takes 128 = .ok (.aload_n 0, 1) := by decide +kernel
theorem dX12_takes_129 : decode cX12_takes 129 = .ok (.getfield 32, 3) := by decide +kernel
theorem dX12_takes_132 : decode cX12_takes 132 = .ok (.iload_n 1, 1) := by decide +kernel
theorem dX12_takes_133 : decode cX12_takes 133 = .ok (.aload_n 0, 1) := by decide +kernel
theorem dX12_takes_134 : decode cX12_takes 134 = .ok (.getfield 62, 3) := by decide +kernel
theorem dX12_takes_137 : decode cX12_takes 137 = .ok (.iload_n 1, 1) := by decide +kernel
theorem dX12_takes_138 : decode cX12_takes 138 = .ok (.iaload, 1) := by decide +kernel
theorem dX12_takes_139 : decode cX12_takes 139 = .ok (.iastore, 1) := by decide +kernel
theorem dX12_takes_140 : decode cX12_takes 140 = .ok (.aload_n 0, 1) := by decide +kernel
theorem dX12_takes_141 : decode cX12_takes 141 = .ok (.getfield 35, 3) := by decide +kernel
theorem dX12_takes_144 : decode cX12_takes 144 = .ok (.iload_n 1, 1) := by decide +kernel
theorem dX12_takes_145 : decode cX12_takes 145 = .ok (.aload_n 0, 1) := by decide +kernel
theorem dX12_takes_146 : decode cX12_takes 146 = .ok (.getfield 65, 3) := by decide +kernel
theorem dX12_takes_149 : decode cX12_takes 149 = .ok (.iload_n 1, 1) := by decide +kernel
theorem dX12_takes_150 : decode cX12_takes 150 = .ok (.iaload, 1) := by decide +kernel
theorem dX12_takes_151 : decode cX12_takes 151 = .ok (.iastore, 1) := by decide +kernel
theorem dX12_takes_152 : decode cX12_takes 152 = .ok (.aload_n 0, 1) := by decide +kernel
theorem dX12_takes_153 : decode cX12_takes 153 = .ok (.getfield 38, 3) := by decide +kernel
theorem dX12_takes_156 : decode cX12_takes 156 = .ok (.iload_n 1, 1) := by decide +kernel
theorem dX12_takes_157 : decode cX12_takes 157 = .ok (.aload_n 0, 1) := by decide +kernel
theorem dX12_takes_158 : decode cX12_takes 158 = .ok (.getfield 68, 3) := by decide +kernel
theorem dX12_takes_161 : decode cX12_takes 161 = .ok (.iload_n 1, 1) := by decide +kernel
theorem dX12_takes_162 : decode cX12_takes 162 = .ok (.iaload, 1) := by decide +kernel
theorem dX12_takes_163 : decode cX12_takes 163 = .ok (.iastore, 1) := by decide +kernel
theorem dX12_takes_164 : decode cX12_takes 164 = .ok (.aload_n 0, 1) := by decide +kernel
theorem dX12_takes_165 : decode cX12_takes 165 = .ok (.getfield 41, 3) := by decide +kernel
theorem dX12_takes_168 : decode cX12_takes 168 = .ok (.iload_n 1, 1) := by decide +kernel
theorem dX12_takes_169 : decode cX12_takes 169 = .ok (.aload_n 0, 1) := by decide +kernel
theorem dX12_takes_170 : decode cX12_takes 170 = .ok (.getfield 71, 3) := by decide +kernel
theorem dX12_takes_173 : decode cX12_takes 173 = .ok (.iload_n 1, 1) := by decide +kernel
theorem dX12_takes_174 : decode cX12_takes 174 = .ok (.iaload, 1) := by decide +kernel
theorem dX12_takes_175 : decode cX12_takes 175 = .ok (.iastore, 1) := by decide +kernel
theorem dX12_takes_176 : decode cX12_takes 176 = .ok (.iconst 0, 1) := by decide +kernel
theorem dX12_takes_177 : decode cX12_takes 177 = .ok (.istore_n 2, 1) := by decide +kernel
theorem dX12_takes_178 : decode cX12_takes 178 = .ok (.iload_n 2, 1) := by decide +kernel
theorem dX12_takes_179 : decode cX12_takes 179 = .ok (.iconst 4, 1) := by decide +kernel
theorem dX12_takes_180 : decode cX12_takes 180 = .ok (.if_icmp .ge 29, 3) := by decide +kernel
theorem dX12_takes_183 : decode cX12_takes 183 = .ok (.aload_n 0, 1) := by decide +kernel
theorem dX12_takes_184 : decode cX12_takes 184 = .ok (.getfield 44, 3) := by decide +kernel
theorem dX12_takes_187 : decode cX12_takes 187 = .ok (.iconst 4, 1) := by decide +kernel
theorem dX12_takes_188 : decode cX12_takes 188 = .ok (.iload_n 1, 1) := by decide +kernel
theorem dX12_takes_189 : decode cX12_takes 189 = .ok (.imul, 1) := by decide +kernel
theorem dX12_takes_190 : decode cX12_takes 190 = .ok (.iload_n 2, 1) := by decide +kernel
theorem dX12_takes_191 : decode cX12_takes 191 = .ok (.iadd, 1) := by decide +kernel
theorem dX12_takes_192 : decode cX12_takes 192 = .ok (.aload_n 0, 1) := by decide +kernel
theorem dX12_takes_193 : decode cX12_takes 193 = .ok (.getfield 74, 3) := by decide +kernel
theorem dX12_takes_196 : decode cX12_takes 196 = .ok (.iconst 4, 1) := by decide +kernel
theorem dX12_takes_197 : decode cX12_takes 197 = .ok (.iload_n 1, 1) := by decide +kernel
theorem dX12_takes_198 : decode cX12_takes 198 = .ok (.imul, 1) := by decide +kernel
theorem dX12_takes_199 : decode cX12_takes 199 = .ok (.iload_n 2, 1) := by decide +kernel
theorem dX12_takes_200 : decode cX12_takes 200 = .ok (.iadd, 1) := by decide +kernel
theorem dX12_takes_201 : decode cX12_takes 201 = .ok (.iaload, 1) := by decide +kernel
theorem dX12_takes_202 : decode cX12_takes 202 = .ok (.iastore, 1) := by decide +kernel
theorem dX12_takes_203 : decode cX12_takes 203 = .ok (.iinc 2 1, 3) := by decide +kernel
theorem dX12_takes_206 : decode cX12_takes 206 = .ok (.goto (-28), 3) := by decide +kernel
theorem dX12_takes_209 : decode cX12_takes 209 = .ok (.iinc 1 1, 3) := by decide +kernel
theorem dX12_takes_212 : decode cX12_takes 212 = .ok (.goto (-92), 3) := by decide +kernel
theorem dX12_takes_215 : decode cX12_takes 215 = .ok (.return_, 1) := by decide +kernel
theorem s150_0 : aW d 150 0 [.ref o, l1, l2] S h Q = aW d 150 1 [.ref o, l1, l2] (.ref o :: S) h Q := ax_aload_n mt150 dX12_takes_0 rfl
theorem s150_1 : aW d 150 1 [.ref o, l1, l2] S h Q = aW d 150 2 [.ref o, l1, l2] (.ref o :: S) h Q := ax_aload_n mt150 dX12_takes_1 rfl
theorem s150_2 (hT : gT h o = some (14, 54)) : aW d 150 2 L (.ref o :: S) h Q = aW d 150 5 L (.int (gI h o 15) :: S) h Q := ax_geti mt150 dX12_takes_2 (by decide) ft_49301 fk_49301 hT
theorem s150_5 (hT : gT h o = some (14, 54)) : aW d 150 5 L (.int a :: .ref o :: S) h Q = aW d 150 8 L S (pI h o 4 a) Q := ax_puti mt150 dX12_takes_5 (by decide) ft_49317 (fun q => fn_49317 q.1) fp_49317 hT
theorem s150_8 : aW d 150 8 L S h Q = aW d 150 9 L (.int (nI 0) :: S) h Q := ax_iconst mt150 dX12_takes_8 ic_0
theorem s150_9 : aW d 150 9 [l0, l1, l2] (.int a :: S) h Q = aW d 150 10 [l0, .int a, l2] S h Q := ax_istore_n mt150 dX12_takes_9 (Nat.le_of_ble_eq_true rfl) rfl
theorem s150_10 : aW d 150 10 [l0, .int a, l2] S h Q = aW d 150 11 [l0, .int a, l2] (.int a :: S) h Q := ax_iload_n mt150 dX12_takes_10 rfl
theorem s150_11 : aW d 150 11 L S h Q = aW d 150 13 L (.int (nI 12) :: S) h Q := ax_bipush mt150 dX12_takes_11 bp_12
theorem s150_13 : aW d 150 13 L (.int b :: .int a :: S) h Q = (if a < b then aW d 150 16 L S h Q else aW d 150 118 L S h Q) := ax_icmp_ge mt150 dX12_takes_13 (by decide)
theorem s150_16 : aW d 150 16 [.ref o, l1, l2] S h Q = aW d 150 17 [.ref o, l1, l2] (.ref o :: S) h Q := ax_aload_n mt150 dX12_takes_16 rfl
theorem s150_17 (hT : gT h o = some (14, 54)) : aW d 150 17 L (.ref o :: S) h Q = (isRf (gR h o 5) = true ∧ aW d 150 20 L (gR h o 5 :: S) h Q) := ax_geta mt150 dX12_takes_17 (by decide) ft_49168 fk_49168 hT
theorem s150_20 : aW d 150 20 [l0, .int a, l2] S h Q = aW d 150 21 [l0, .int a, l2] (.int a :: S) h Q := ax_iload_n mt150 dX12_takes_20 rfl
theorem s150_21 : aW d 150 21 [.ref o, l1, l2] S h Q = aW d 150 22 [.ref o, l1, l2] (.ref o :: S) h Q := ax_aload_n mt150 dX12_takes_21 rfl
theorem s150_22 (hT : gT h o = some (14, 54)) : aW d 150 22 L (.ref o :: S) h Q = (isRf (gR h o 16) = true ∧ aW d 150 25 L (gR h o 16 :: S) h Q) := ax_geta mt150 dX12_takes_22 (by decide) ft_49199 fk_49199 hT
theorem s150_25 : aW d 150 25 [l0, .int a, l2] S h Q = aW d 150 26 [l0, .int a, l2] (.int a :: S) h Q := ax_iload_n mt150 dX12_takes_25 rfl
theorem s150_26 : aW d 150 26 L (.int a :: .ref o :: S) h Q = (inb a (aZ h o) ∧ aW d 150 27 L (.int (gI h o a.toNatClampNeg) :: S) h Q) := ax_zald mt150 dX12_takes_26
theorem s150_27 : aW d 150 27 L (.int b :: .int a :: .ref o :: S) h Q = ((inb a (aZ h o) ∧ b01 b) ∧ aW d 150 28 L S (pI h o a.toNatClampNeg b) Q) := ax_zast mt150 dX12_takes_27
theorem s150_28 : aW d 150 28 [.ref o, l1, l2] S h Q = aW d 150 29 [.ref o, l1, l2] (.ref o :: S) h Q := ax_aload_n mt150 dX12_takes_28 rfl
theorem s150_29 (hT : gT h o = some (14, 54)) : aW d 150 29 L (.ref o :: S) h Q = (isRf (gR h o 9) = true ∧ aW d 150 32 L (gR h o 9 :: S) h Q) := ax_geta mt150 dX12_takes_29 (by decide) ft_49181 fk_49181 hT
theorem s150_32 : aW d 150 32 [l0, .int a, l2] S h Q = aW d 150 33 [l0, .int a, l2] (.int a :: S) h Q := ax_iload_n mt150 dX12_takes_32 rfl
theorem s150_33 : aW d 150 33 [.ref o, l1, l2] S h Q = aW d 150 34 [.ref o, l1, l2] (.ref o :: S) h Q := ax_aload_n mt150 dX12_takes_33 rfl
theorem s150_34 (hT : gT h o = some (14, 54)) : aW d 150 34 L (.ref o :: S) h Q = (isRf (gR h o 20) = true ∧ aW d 150 37 L (gR h o 20 :: S) h Q) := ax_geta mt150 dX12_takes_34 (by decide) ft_49211 fk_49211 hT
theorem s150_37 : aW d 150 37 [l0, .int a, l2] S h Q = aW d 150 38 [l0, .int a, l2] (.int a :: S) h Q := ax_iload_n mt150 dX12_takes_37 rfl
theorem s150_38 : aW d 150 38 L (.int a :: .ref o :: S) h Q = (inb a (aZ h o) ∧ aW d 150 39 L (.int (gI h o a.toNatClampNeg) :: S) h Q) := ax_zald mt150 dX12_takes_38
theorem s150_39 : aW d 150 39 L (.int b :: .int a :: .ref o :: S) h Q = ((inb a (aZ h o) ∧ b01 b) ∧ aW d 150 40 L S (pI h o a.toNatClampNeg b) Q) := ax_zast mt150 dX12_takes_39
theorem s150_40 : aW d 150 40 [.ref o, l1, l2] S h Q = aW d 150 41 [.ref o, l1, l2] (.ref o :: S) h Q := ax_aload_n mt150 dX12_takes_40 rfl
theorem s150_41 (hT : gT h o = some (14, 54)) : aW d 150 41 L (.ref o :: S) h Q = (isRf (gR h o 6) = true ∧ aW d 150 44 L (gR h o 6 :: S) h Q) := ax_geta mt150 dX12_takes_41 (by decide) ft_49172 fk_49172 hT
theorem s150_44 : aW d 150 44 [l0, .int a, l2] S h Q = aW d 150 45 [l0, .int a, l2] (.int a :: S) h Q := ax_iload_n mt150 dX12_takes_44 rfl
theorem s150_45 : aW d 150 45 [.ref o, l1, l2] S h Q = aW d 150 46 [.ref o, l1, l2] (.ref o :: S) h Q := ax_aload_n mt150 dX12_takes_45 rfl
theorem s150_46 (hT : gT h o = some (14, 54)) : aW d 150 46 L (.ref o :: S) h Q = (isRf (gR h o 17) = true ∧ aW d 150 49 L (gR h o 17 :: S) h Q) := ax_geta mt150 dX12_takes_46 (by decide) ft_49202 fk_49202 hT
theorem s150_49 : aW d 150 49 [l0, .int a, l2] S h Q = aW d 150 50 [l0, .int a, l2] (.int a :: S) h Q := ax_iload_n mt150 dX12_takes_49 rfl
theorem s150_50 : aW d 150 50 L (.int a :: .ref o :: S) h Q = (inb a (aI h o) ∧ aW d 150 51 L (.int (gI h o a.toNatClampNeg) :: S) h Q) := ax_iald mt150 dX12_takes_50
theorem s150_51 : aW d 150 51 L (.int b :: .int a :: .ref o :: S) h Q = (inb a (aJ h o) ∧ aW d 150 52 L S (pI h o a.toNatClampNeg b) Q) := ax_iast mt150 dX12_takes_51
theorem s150_52 : aW d 150 52 [.ref o, l1, l2] S h Q = aW d 150 53 [.ref o, l1, l2] (.ref o :: S) h Q := ax_aload_n mt150 dX12_takes_52 rfl
theorem s150_53 (hT : gT h o = some (14, 54)) : aW d 150 53 L (.ref o :: S) h Q = (isRf (gR h o 28) = true ∧ aW d 150 56 L (gR h o 28 :: S) h Q) := ax_geta mt150 dX12_takes_53 (by decide) ft_49232 fk_49232 hT
theorem s150_56 : aW d 150 56 [l0, .int a, l2] S h Q = aW d 150 57 [l0, .int a, l2] (.int a :: S) h Q := ax_iload_n mt150 dX12_takes_56 rfl
theorem s150_57 : aW d 150 57 L S h Q = aW d 150 58 L (.int ((-1)) :: S) h Q := ax_iconst mt150 dX12_takes_57 ic_m1
theorem s150_58 : aW d 150 58 L (.int b :: .int a :: .ref o :: S) h Q = (inb a (aJ h o) ∧ aW d 150 59 L S (pI h o a.toNatClampNeg b) Q) := ax_iast mt150 dX12_takes_58
theorem s150_59 : aW d 150 59 L S h Q = aW d 150 60 L (.int (nI 0) :: S) h Q := ax_iconst mt150 dX12_takes_59 ic_0
theorem s150_60 : aW d 150 60 [l0, l1, l2] (.int a :: S) h Q = aW d 150 61 [l0, l1, .int a] S h Q := ax_istore_n mt150 dX12_takes_60 (Nat.le_of_ble_eq_true rfl) rfl
theorem s150_61 : aW d 150 61 [l0, l1, .int a] S h Q = aW d 150 62 [l0, l1, .int a] (.int a :: S) h Q := ax_iload_n mt150 dX12_takes_61 rfl
theorem s150_62 : aW d 150 62 L S h Q = aW d 150 63 L (.int (nI 4) :: S) h Q := ax_iconst mt150 dX12_takes_62 ic_4
theorem s150_63 : aW d 150 63 L (.int b :: .int a :: S) h Q = (if a < b then aW d 150 66 L S h Q else aW d 150 112 L S h Q) := ax_icmp_ge mt150 dX12_takes_63 (by decide)
theorem s150_66 : aW d 150 66 [.ref o, l1, l2] S h Q = aW d 150 67 [.ref o, l1, l2] (.ref o :: S) h Q := ax_aload_n mt150 dX12_takes_66 rfl
theorem s150_67 (hT : gT h o = some (14, 54)) : aW d 150 67 L (.ref o :: S) h Q = (isRf (gR h o 7) = true ∧ aW d 150 70 L (gR h o 7 :: S) h Q) := ax_geta mt150 dX12_takes_67 (by decide) ft_49175 fk_49175 hT
theorem s150_70 : aW d 150 70 L S h Q = aW d 150 71 L (.int (nI 4) :: S) h Q := ax_iconst mt150 dX12_takes_70 ic_4
theorem s150_71 : aW d 150 71 [l0, .int a, l2] S h Q = aW d 150 72 [l0, .int a, l2] (.int a :: S) h Q := ax_iload_n mt150 dX12_takes_71 rfl
theorem s150_72 : aW d 150 72 L (.int b :: .int a :: S) h Q = aW d 150 73 L (.int (a * b) :: S) h Q := ax_imul mt150 dX12_takes_72
theorem s150_73 : aW d 150 73 [l0, l1, .int a] S h Q = aW d 150 74 [l0, l1, .int a] (.int a :: S) h Q := ax_iload_n mt150 dX12_takes_73 rfl
theorem s150_74 : aW d 150 74 L (.int b :: .int a :: S) h Q = aW d 150 75 L (.int (a + b) :: S) h Q := ax_iadd mt150 dX12_takes_74
theorem s150_75 : aW d 150 75 [.ref o, l1, l2] S h Q = aW d 150 76 [.ref o, l1, l2] (.ref o :: S) h Q := ax_aload_n mt150 dX12_takes_75 rfl
theorem s150_76 (hT : gT h o = some (14, 54)) : aW d 150 76 L (.ref o :: S) h Q = (isRf (gR h o 18) = true ∧ aW d 150 79 L (gR h o 18 :: S) h Q) := ax_geta mt150 dX12_takes_76 (by decide) ft_49205 fk_49205 hT
theorem s150_79 : aW d 150 79 L S h Q = aW d 150 80 L (.int (nI 4) :: S) h Q := ax_iconst mt150 dX12_takes_79 ic_4
theorem s150_80 : aW d 150 80 [l0, .int a, l2] S h Q = aW d 150 81 [l0, .int a, l2] (.int a :: S) h Q := ax_iload_n mt150 dX12_takes_80 rfl
theorem s150_81 : aW d 150 81 L (.int b :: .int a :: S) h Q = aW d 150 82 L (.int (a * b) :: S) h Q := ax_imul mt150 dX12_takes_81
theorem s150_82 : aW d 150 82 [l0, l1, .int a] S h Q = aW d 150 83 [l0, l1, .int a] (.int a :: S) h Q := ax_iload_n mt150 dX12_takes_82 rfl
theorem s150_83 : aW d 150 83 L (.int b :: .int a :: S) h Q = aW d 150 84 L (.int (a + b) :: S) h Q := ax_iadd mt150 dX12_takes_83
theorem s150_84 : aW d 150 84 L (.int a :: .ref o :: S) h Q = (inb a (aI h o) ∧ aW d 150 85 L (.int (gI h o a.toNatClampNeg) :: S) h Q) := ax_iald mt150 dX12_takes_84
theorem s150_85 : aW d 150 85 L (.int b :: .int a :: .ref o :: S) h Q = (inb a (aJ h o) ∧ aW d 150 86 L S (pI h o a.toNatClampNeg b) Q) := ax_iast mt150 dX12_takes_85
theorem s150_86 : aW d 150 86 [.ref o, l1, l2] S h Q = aW d 150 87 [.ref o, l1, l2] (.ref o :: S) h Q := ax_aload_n mt150 dX12_takes_86 rfl
theorem s150_87 (hT : gT h o = some (14, 54)) : aW d 150 87 L (.ref o :: S) h Q = (isRf (gR h o 8) = true ∧ aW d 150 90 L (gR h o 8 :: S) h Q) := ax_geta mt150 dX12_takes_87 (by decide) ft_49178 fk_49178 hT
theorem s150_90 : aW d 150 90 L S h Q = aW d 150 91 L (.int (nI 4) :: S) h Q := ax_iconst mt150 dX12_takes_90 ic_4
theorem s150_91 : aW d 150 91 [l0, .int a, l2] S h Q = aW d 150 92 [l0, .int a, l2] (.int a :: S) h Q := ax_iload_n mt150 dX12_takes_91 rfl
theorem s150_92 : aW d 150 92 L (.int b :: .int a :: S) h Q = aW d 150 93 L (.int (a * b) :: S) h Q := ax_imul mt150 dX12_takes_92
theorem s150_93 : aW d 150 93 [l0, l1, .int a] S h Q = aW d 150 94 [l0, l1, .int a] (.int a :: S) h Q := ax_iload_n mt150 dX12_takes_93 rfl
theorem s150_94 : aW d 150 94 L (.int b :: .int a :: S) h Q = aW d 150 95 L (.int (a + b) :: S) h Q := ax_iadd mt150 dX12_takes_94
theorem s150_95 : aW d 150 95 [.ref o, l1, l2] S h Q = aW d 150 96 [.ref o, l1, l2] (.ref o :: S) h Q := ax_aload_n mt150 dX12_takes_95 rfl
theorem s150_96 (hT : gT h o = some (14, 54)) : aW d 150 96 L (.ref o :: S) h Q = (isRf (gR h o 19) = true ∧ aW d 150 99 L (gR h o 19 :: S) h Q) := ax_geta mt150 dX12_takes_96 (by decide) ft_49208 fk_49208 hT
theorem s150_99 : aW d 150 99 L S h Q = aW d 150 100 L (.int (nI 4) :: S) h Q := ax_iconst mt150 dX12_takes_99 ic_4
theorem s150_100 : aW d 150 100 [l0, .int a, l2] S h Q = aW d 150 101 [l0, .int a, l2] (.int a :: S) h Q := ax_iload_n mt150 dX12_takes_100 rfl
theorem s150_101 : aW d 150 101 L (.int b :: .int a :: S) h Q = aW d 150 102 L (.int (a * b) :: S) h Q := ax_imul mt150 dX12_takes_101
theorem s150_102 : aW d 150 102 [l0, l1, .int a] S h Q = aW d 150 103 [l0, l1, .int a] (.int a :: S) h Q := ax_iload_n mt150 dX12_takes_102 rfl
theorem s150_103 : aW d 150 103 L (.int b :: .int a :: S) h Q = aW d 150 104 L (.int (a + b) :: S) h Q := ax_iadd mt150 dX12_takes_103
theorem s150_104 : aW d 150 104 L (.int a :: .ref o :: S) h Q = (inb a (aI h o) ∧ aW d 150 105 L (.int (gI h o a.toNatClampNeg) :: S) h Q) := ax_iald mt150 dX12_takes_104
theorem s150_105 : aW d 150 105 L (.int b :: .int a :: .ref o :: S) h Q = (inb a (aJ h o) ∧ aW d 150 106 L S (pI h o a.toNatClampNeg b) Q) := ax_iast mt150 dX12_takes_105
theorem s150_106 : aW d 150 106 [l0, l1, .int a] S h Q = aW d 150 109 [l0, l1, .int (a + nI 1)] S h Q := ax_iinc mt150 dX12_takes_106 rfl ic_1 rfl
theorem s150_109 : aW d 150 109 L S h Q = aW d 150 61 L S h Q := ax_goto mt150 dX12_takes_109 (by decide)
theorem s150_112 : aW d 150 112 [l0, .int a, l2] S h Q = aW d 150 115 [l0, .int (a + nI 1), l2] S h Q := ax_iinc mt150 dX12_takes_112 rfl ic_1 rfl
theorem s150_115 : aW d 150 115 L S h Q = aW d 150 10 L S h Q := ax_goto mt150 dX12_takes_115 (by decide)
theorem s150_118 : aW d 150 118 L S h Q = aW d 150 119 L (.int (nI 0) :: S) h Q := ax_iconst mt150 dX12_takes_118 ic_0
theorem s150_119 : aW d 150 119 [l0, l1, l2] (.int a :: S) h Q = aW d 150 120 [l0, .int a, l2] S h Q := ax_istore_n mt150 dX12_takes_119 (Nat.le_of_ble_eq_true rfl) rfl
theorem s150_120 : aW d 150 120 [l0, .int a, l2] S h Q = aW d 150 121 [l0, .int a, l2] (.int a :: S) h Q := ax_iload_n mt150 dX12_takes_120 rfl
theorem s150_121 : aW d 150 121 [.ref o, l1, l2] S h Q = aW d 150 122 [.ref o, l1, l2] (.ref o :: S) h Q := ax_aload_n mt150 dX12_takes_121 rfl
theorem s150_122 (hT : gT h o = some (14, 54)) : aW d 150 122 L (.ref o :: S) h Q = aW d 150 125 L (.int (gI h o 4) :: S) h Q := ax_geti mt150 dX12_takes_122 (by decide) ft_49317 fk_49317 hT
theorem s150_125 : aW d 150 125 L (.int b :: .int a :: S) h Q = (if a < b then aW d 150 128 L S h Q else aW d 150 215 L S h Q) := ax_icmp_ge mt150 dX12_takes_125 (by decide)
theorem s150_128 : aW d 150 128 [.ref o, l1, l2] S h Q = aW d 150 129 [.ref o, l1, l2] (.ref o :: S) h Q := ax_aload_n mt150 dX12_takes_128 rfl
theorem s150_129 (hT : gT h o = some (14, 54)) : aW d 150 129 L (.ref o :: S) h Q = (isRf (gR h o 10) = true ∧ aW d 150 132 L (gR h o 10 :: S) h Q) := ax_geta mt150 dX12_takes_129 (by decide) ft_49184 fk_49184 hT
theorem s150_132 : aW d 150 132 [l0, .int a, l2] S h Q = aW d 150 133 [l0, .int a, l2] (.int a :: S) h Q := ax_iload_n mt150 dX12_takes_132 rfl
theorem s150_133 : aW d 150 133 [.ref o, l1, l2] S h Q = aW d 150 134 [.ref o, l1, l2] (.ref o :: S) h Q := ax_aload_n mt150 dX12_takes_133 rfl
theorem s150_134 (hT : gT h o = some (14, 54)) : aW d 150 134 L (.ref o :: S) h Q = (isRf (gR h o 21) = true ∧ aW d 150 137 L (gR h o 21 :: S) h Q) := ax_geta mt150 dX12_takes_134 (by decide) ft_49214 fk_49214 hT
theorem s150_137 : aW d 150 137 [l0, .int a, l2] S h Q = aW d 150 138 [l0, .int a, l2] (.int a :: S) h Q := ax_iload_n mt150 dX12_takes_137 rfl
theorem s150_138 : aW d 150 138 L (.int a :: .ref o :: S) h Q = (inb a (aI h o) ∧ aW d 150 139 L (.int (gI h o a.toNatClampNeg) :: S) h Q) := ax_iald mt150 dX12_takes_138
theorem s150_139 : aW d 150 139 L (.int b :: .int a :: .ref o :: S) h Q = (inb a (aJ h o) ∧ aW d 150 140 L S (pI h o a.toNatClampNeg b) Q) := ax_iast mt150 dX12_takes_139
theorem s150_140 : aW d 150 140 [.ref o, l1, l2] S h Q = aW d 150 141 [.ref o, l1, l2] (.ref o :: S) h Q := ax_aload_n mt150 dX12_takes_140 rfl
theorem s150_141 (hT : gT h o = some (14, 54)) : aW d 150 141 L (.ref o :: S) h Q = (isRf (gR h o 11) = true ∧ aW d 150 144 L (gR h o 11 :: S) h Q) := ax_geta mt150 dX12_takes_141 (by decide) ft_49187 fk_49187 hT
theorem s150_144 : aW d 150 144 [l0, .int a, l2] S h Q = aW d 150 145 [l0, .int a, l2] (.int a :: S) h Q := ax_iload_n mt150 dX12_takes_144 rfl
theorem s150_145 : aW d 150 145 [.ref o, l1, l2] S h Q = aW d 150 146 [.ref o, l1, l2] (.ref o :: S) h Q := ax_aload_n mt150 dX12_takes_145 rfl
theorem s150_146 (hT : gT h o = some (14, 54)) : aW d 150 146 L (.ref o :: S) h Q = (isRf (gR h o 22) = true ∧ aW d 150 149 L (gR h o 22 :: S) h Q) := ax_geta mt150 dX12_takes_146 (by decide) ft_49217 fk_49217 hT
theorem s150_149 : aW d 150 149 [l0, .int a, l2] S h Q = aW d 150 150 [l0, .int a, l2] (.int a :: S) h Q := ax_iload_n mt150 dX12_takes_149 rfl
theorem s150_150 : aW d 150 150 L (.int a :: .ref o :: S) h Q = (inb a (aI h o) ∧ aW d 150 151 L (.int (gI h o a.toNatClampNeg) :: S) h Q) := ax_iald mt150 dX12_takes_150
theorem s150_151 : aW d 150 151 L (.int b :: .int a :: .ref o :: S) h Q = (inb a (aJ h o) ∧ aW d 150 152 L S (pI h o a.toNatClampNeg b) Q) := ax_iast mt150 dX12_takes_151
theorem s150_152 : aW d 150 152 [.ref o, l1, l2] S h Q = aW d 150 153 [.ref o, l1, l2] (.ref o :: S) h Q := ax_aload_n mt150 dX12_takes_152 rfl
theorem s150_153 (hT : gT h o = some (14, 54)) : aW d 150 153 L (.ref o :: S) h Q = (isRf (gR h o 12) = true ∧ aW d 150 156 L (gR h o 12 :: S) h Q) := ax_geta mt150 dX12_takes_153 (by decide) ft_49190 fk_49190 hT
theorem s150_156 : aW d 150 156 [l0, .int a, l2] S h Q = aW d 150 157 [l0, .int a, l2] (.int a :: S) h Q := ax_iload_n mt150 dX12_takes_156 rfl
theorem s150_157 : aW d 150 157 [.ref o, l1, l2] S h Q = aW d 150 158 [.ref o, l1, l2] (.ref o :: S) h Q := ax_aload_n mt150 dX12_takes_157 rfl
theorem s150_158 (hT : gT h o = some (14, 54)) : aW d 150 158 L (.ref o :: S) h Q = (isRf (gR h o 23) = true ∧ aW d 150 161 L (gR h o 23 :: S) h Q) := ax_geta mt150 dX12_takes_158 (by decide) ft_49220 fk_49220 hT
theorem s150_161 : aW d 150 161 [l0, .int a, l2] S h Q = aW d 150 162 [l0, .int a, l2] (.int a :: S) h Q := ax_iload_n mt150 dX12_takes_161 rfl
theorem s150_162 : aW d 150 162 L (.int a :: .ref o :: S) h Q = (inb a (aI h o) ∧ aW d 150 163 L (.int (gI h o a.toNatClampNeg) :: S) h Q) := ax_iald mt150 dX12_takes_162
theorem s150_163 : aW d 150 163 L (.int b :: .int a :: .ref o :: S) h Q = (inb a (aJ h o) ∧ aW d 150 164 L S (pI h o a.toNatClampNeg b) Q) := ax_iast mt150 dX12_takes_163
theorem s150_164 : aW d 150 164 [.ref o, l1, l2] S h Q = aW d 150 165 [.ref o, l1, l2] (.ref o :: S) h Q := ax_aload_n mt150 dX12_takes_164 rfl
theorem s150_165 (hT : gT h o = some (14, 54)) : aW d 150 165 L (.ref o :: S) h Q = (isRf (gR h o 13) = true ∧ aW d 150 168 L (gR h o 13 :: S) h Q) := ax_geta mt150 dX12_takes_165 (by decide) ft_49193 fk_49193 hT
theorem s150_168 : aW d 150 168 [l0, .int a, l2] S h Q = aW d 150 169 [l0, .int a, l2] (.int a :: S) h Q := ax_iload_n mt150 dX12_takes_168 rfl
theorem s150_169 : aW d 150 169 [.ref o, l1, l2] S h Q = aW d 150 170 [.ref o, l1, l2] (.ref o :: S) h Q := ax_aload_n mt150 dX12_takes_169 rfl
theorem s150_170 (hT : gT h o = some (14, 54)) : aW d 150 170 L (.ref o :: S) h Q = (isRf (gR h o 24) = true ∧ aW d 150 173 L (gR h o 24 :: S) h Q) := ax_geta mt150 dX12_takes_170 (by decide) ft_49223 fk_49223 hT
theorem s150_173 : aW d 150 173 [l0, .int a, l2] S h Q = aW d 150 174 [l0, .int a, l2] (.int a :: S) h Q := ax_iload_n mt150 dX12_takes_173 rfl
theorem s150_174 : aW d 150 174 L (.int a :: .ref o :: S) h Q = (inb a (aI h o) ∧ aW d 150 175 L (.int (gI h o a.toNatClampNeg) :: S) h Q) := ax_iald mt150 dX12_takes_174
theorem s150_175 : aW d 150 175 L (.int b :: .int a :: .ref o :: S) h Q = (inb a (aJ h o) ∧ aW d 150 176 L S (pI h o a.toNatClampNeg b) Q) := ax_iast mt150 dX12_takes_175
theorem s150_176 : aW d 150 176 L S h Q = aW d 150 177 L (.int (nI 0) :: S) h Q := ax_iconst mt150 dX12_takes_176 ic_0
theorem s150_177 : aW d 150 177 [l0, l1, l2] (.int a :: S) h Q = aW d 150 178 [l0, l1, .int a] S h Q := ax_istore_n mt150 dX12_takes_177 (Nat.le_of_ble_eq_true rfl) rfl
theorem s150_178 : aW d 150 178 [l0, l1, .int a] S h Q = aW d 150 179 [l0, l1, .int a] (.int a :: S) h Q := ax_iload_n mt150 dX12_takes_178 rfl
theorem s150_179 : aW d 150 179 L S h Q = aW d 150 180 L (.int (nI 4) :: S) h Q := ax_iconst mt150 dX12_takes_179 ic_4
theorem s150_180 : aW d 150 180 L (.int b :: .int a :: S) h Q = (if a < b then aW d 150 183 L S h Q else aW d 150 209 L S h Q) := ax_icmp_ge mt150 dX12_takes_180 (by decide)
theorem s150_183 : aW d 150 183 [.ref o, l1, l2] S h Q = aW d 150 184 [.ref o, l1, l2] (.ref o :: S) h Q := ax_aload_n mt150 dX12_takes_183 rfl
theorem s150_184 (hT : gT h o = some (14, 54)) : aW d 150 184 L (.ref o :: S) h Q = (isRf (gR h o 14) = true ∧ aW d 150 187 L (gR h o 14 :: S) h Q) := ax_geta mt150 dX12_takes_184 (by decide) ft_49196 fk_49196 hT
theorem s150_187 : aW d 150 187 L S h Q = aW d 150 188 L (.int (nI 4) :: S) h Q := ax_iconst mt150 dX12_takes_187 ic_4
theorem s150_188 : aW d 150 188 [l0, .int a, l2] S h Q = aW d 150 189 [l0, .int a, l2] (.int a :: S) h Q := ax_iload_n mt150 dX12_takes_188 rfl
theorem s150_189 : aW d 150 189 L (.int b :: .int a :: S) h Q = aW d 150 190 L (.int (a * b) :: S) h Q := ax_imul mt150 dX12_takes_189
theorem s150_190 : aW d 150 190 [l0, l1, .int a] S h Q = aW d 150 191 [l0, l1, .int a] (.int a :: S) h Q := ax_iload_n mt150 dX12_takes_190 rfl
theorem s150_191 : aW d 150 191 L (.int b :: .int a :: S) h Q = aW d 150 192 L (.int (a + b) :: S) h Q := ax_iadd mt150 dX12_takes_191
theorem s150_192 : aW d 150 192 [.ref o, l1, l2] S h Q = aW d 150 193 [.ref o, l1, l2] (.ref o :: S) h Q := ax_aload_n mt150 dX12_takes_192 rfl
theorem s150_193 (hT : gT h o = some (14, 54)) : aW d 150 193 L (.ref o :: S) h Q = (isRf (gR h o 25) = true ∧ aW d 150 196 L (gR h o 25 :: S) h Q) := ax_geta mt150 dX12_takes_193 (by decide) ft_49226 fk_49226 hT
theorem s150_196 : aW d 150 196 L S h Q = aW d 150 197 L (.int (nI 4) :: S) h Q := ax_iconst mt150 dX12_takes_196 ic_4
theorem s150_197 : aW d 150 197 [l0, .int a, l2] S h Q = aW d 150 198 [l0, .int a, l2] (.int a :: S) h Q := ax_iload_n mt150 dX12_takes_197 rfl
theorem s150_198 : aW d 150 198 L (.int b :: .int a :: S) h Q = aW d 150 199 L (.int (a * b) :: S) h Q := ax_imul mt150 dX12_takes_198
theorem s150_199 : aW d 150 199 [l0, l1, .int a] S h Q = aW d 150 200 [l0, l1, .int a] (.int a :: S) h Q := ax_iload_n mt150 dX12_takes_199 rfl
theorem s150_200 : aW d 150 200 L (.int b :: .int a :: S) h Q = aW d 150 201 L (.int (a + b) :: S) h Q := ax_iadd mt150 dX12_takes_200
theorem s150_201 : aW d 150 201 L (.int a :: .ref o :: S) h Q = (inb a (aI h o) ∧ aW d 150 202 L (.int (gI h o a.toNatClampNeg) :: S) h Q) := ax_iald mt150 dX12_takes_201
theorem s150_202 : aW d 150 202 L (.int b :: .int a :: .ref o :: S) h Q = (inb a (aJ h o) ∧ aW d 150 203 L S (pI h o a.toNatClampNeg b) Q) := ax_iast mt150 dX12_takes_202
theorem s150_203 : aW d 150 203 [l0, l1, .int a] S h Q = aW d 150 206 [l0, l1, .int (a + nI 1)] S h Q := ax_iinc mt150 dX12_takes_203 rfl ic_1 rfl
theorem s150_206 : aW d 150 206 L S h Q = aW d 150 178 L S h Q := ax_goto mt150 dX12_takes_206 (by decide)
theorem s150_209 : aW d 150 209 [l0, .int a, l2] S h Q = aW d 150 212 [l0, .int (a + nI 1), l2] S h Q := ax_iinc mt150 dX12_takes_209 rfl ic_1 rfl
theorem s150_212 : aW d 150 212 L S h Q = aW d 150 120 L S h Q := ax_goto mt150 dX12_takes_212 (by decide)
theorem s150_215 : aW d 150 215 L [] h Q = Q none h := ax_retv mt150 dX12_takes_215 rfl
-- method 151: BufferRoomModel.program()I
theorem dX12_program_0 : decode cX12_program 0 = .ok (.aload_n 0, 1) := by decide +kernel
theorem dX12_program_1 : decode cX12_program 1 = .ok (.iconst 0, 1) := by decide +kernel
theorem dX12_program_2 : decode cX12_program 2 = .ok (.putfield 135, 3) := by decide +kernel
theorem dX12_program_5 : decode cX12_program 5 = .ok (.aload_n 0, 1) := by decide +kernel
theorem dX12_program_6 : decode cX12_program 6 = .ok (.invokevirtual 168, 3) := by decide +kernel
theorem dX12_program_9 : decode cX12_program 9 = .ok (.iconst 1, 1) := by decide +kernel
theorem dX12_program_10 : decode cX12_program 10 = .ok (.istore_n 1, 1) := by decide +kernel
theorem dX12_program_11 : decode cX12_program 11 = .ok (.iload_n 1, 1) := by decide +kernel
theorem dX12_program_12 : decode cX12_program 12 = .ok (.ifCond .eq 22, 3) := by decide +kernel
theorem dX12_program_15 : decode cX12_program 15 = .ok (.aload_n 0, 1) := by decide +kernel
theorem dX12_program_16 : decode cX12_program 16 = .ok (.getfield 135, 3) := by decide +kernel
theorem dX12_program_19 : decode cX12_program 19 = .ok (.aload_n 0, 1) := by decide +kernel
theorem dX12_program_20 : decode cX12_program 20 = .ok (.getfield 129, 3) := by decide +kernel
theorem dX12_program_23 : decode cX12_program 23 = .ok (.if_icmp .ge 11, 3) := by decide +kernel
theorem dX12_program_26 : decode cX12_program 26 = .ok (.aload_n 0, 1) := by decide +kernel
theorem dX12_program_27 : decode cX12_program 27 = .ok (.invokevirtual 171, 3) := by decide +kernel
theorem dX12_program_30 : decode cX12_program 30 = .ok (.istore_n 1, 1) := by decide +kernel
theorem dX12_program_31 : decode cX12_program 31 = .ok (.goto (-20), 3) := by decide +kernel
theorem dX12_program_34 : decode cX12_program 34 = .ok (.aload_n 0, 1) := by decide +kernel
theorem dX12_program_35 : decode cX12_program 35 = .ok (.iconst 0, 1) := by decide +kernel
theorem dX12_program_36 : decode cX12_program 36 = .ok (.putfield 129, 3) := by decide +kernel
theorem dX12_program_39 : decode cX12_program 39 = .ok (.iload_n 1, 1) := by decide +kernel
theorem dX12_program_40 : decode cX12_program 40 = .ok (.ifCond .ne 11, 3) := by decide +kernel
theorem dX12_program_43 : decode cX12_program 43 = .ok (.bipush (-100), 2) := by decide +kernel
theorem dX12_program_45 : decode cX12_program 45 = .ok (.aload_n 0, 1) := by decide +kernel
theorem dX12_program_46 : decode cX12_program 46 = .ok (.getfield 135, 3) := by decide +kernel
theorem dX12_program_49 : decode cX12_program 49 = .ok (.isub, 1) := by decide +kernel
theorem dX12_program_50 : decode cX12_program 50 = .ok (.ireturn, 1) := by decide +kernel
theorem dX12_program_51 : decode cX12_program 51 = .ok (.aload_n 0, 1) := by decide +kernel
theorem dX12_program_52 : decode cX12_program 52 = .ok (.invokevirtual 174, 3) := by decide +kernel
theorem dX12_program_55 : decode cX12_program 55 = .ok (.aload_n 0, 1) := by decide +kernel
theorem dX12_program_56 : decode cX12_program 56 = .ok (.dup, 1) := by decide +kernel
theorem dX12_program_57 : decode cX12_program 57 = .ok (.getfield 177, 3) := by decide +kernel
theorem dX12_program_60 : decode cX12_program 60 = .ok (.iconst 1, 1) := by decide +kernel
theorem dX12_program_61 : decode cX12_program 61 = .ok (.iadd, 1) := by decide +kernel
theorem dX12_program_62 : decode cX12_program 62 = .ok (.putfield 177, 3) := by decide +kernel
theorem dX12_program_65 : decode cX12_program 65 = .ok (.aload_n 0, 1) := by decide +kernel
theorem dX12_program_66 : decode cX12_program 66 = .ok (.iconst 0, 1) := by decide +kernel
theorem dX12_program_67 : decode cX12_program 67 = .ok (.putfield 180, 3) := by decide +kernel
theorem dX12_program_70 : decode cX12_program 70 = .ok (.aload_n 0, 1) := by decide +kernel
theorem dX12_program_71 : decode cX12_program 71 = .ok (.iconst 0, 1) := by decide +kernel
theorem dX12_program_72 : decode cX12_program 72 = .ok (.putfield 184, 3) := by decide +kernel
theorem dX12_program_75 : decode cX12_program 75 = .ok (.aload_n 0, 1) := by decide +kernel
theorem dX12_program_76 : decode cX12_program 76 = .ok (.invokevirtual 187, 3) := by decide +kernel
theorem dX12_program_79 : decode cX12_program 79 = .ok (.pop, 1) := by decide +kernel
theorem dX12_program_80 : decode cX12_program 80 = .ok (.aload_n 0, 1) := by decide +kernel
theorem dX12_program_81 : decode cX12_program 81 = .ok (.getfield 165, 3) := by decide +kernel
theorem dX12_program_84 : decode cX12_program 84 = .ok (.ireturn, 1) := by decide +kernel
theorem s151_0 : aW d 151 0 [.ref o, l1] S h Q = aW d 151 1 [.ref o, l1] (.ref o :: S) h Q := ax_aload_n mt151 dX12_program_0 rfl
theorem s151_1 : aW d 151 1 L S h Q = aW d 151 2 L (.int (nI 0) :: S) h Q := ax_iconst mt151 dX12_program_1 ic_0
theorem s151_2 (hT : gT h o = some (14, 54)) : aW d 151 2 L (.int a :: .ref o :: S) h Q = aW d 151 5 L S (pI h o 45 a) Q := ax_puti mt151 dX12_program_2 (by decide) ft_49287 (fun q => fn_49287 q.1) fp_49287 hT
theorem s151_5 : aW d 151 5 [.ref o, l1] S h Q = aW d 151 6 [.ref o, l1] (.ref o :: S) h Q := ax_aload_n mt151 dX12_program_5 rfl
theorem s151_6 (hT : gT h o = some (14, 54)) : aW (d + 1) 151 6 L (.ref o :: []) h Q = aM d 149 (.ref o :: []) h (fun v h1 => aW (d + 1) 151 9 L (ab_ps v []) h1 Q) := ax_invv mt151 dX12_program_6 (by decide) ct_49320 (.inl rfl) mt149 ⟨⟨Nat.le_of_ble_eq_true rfl, Nat.le_of_ble_eq_true rfl, Nat.le_of_ble_eq_true rfl⟩, rfl, rfl, rfl⟩ hT
theorem s151_9 : aW d 151 9 L S h Q = aW d 151 10 L (.int (nI 1) :: S) h Q := ax_iconst mt151 dX12_program_9 ic_1
theorem s151_10 : aW d 151 10 [l0, l1] (.int a :: S) h Q = aW d 151 11 [l0, .int a] S h Q := ax_istore_n mt151 dX12_program_10 (Nat.le_of_ble_eq_true rfl) rfl
theorem s151_11 : aW d 151 11 [l0, .int a] S h Q = aW d 151 12 [l0, .int a] (.int a :: S) h Q := ax_iload_n mt151 dX12_program_11 rfl
theorem s151_12 : aW d 151 12 L (.int a :: S) h Q = (if a = 0 then aW d 151 34 L S h Q else aW d 151 15 L S h Q) := ax_if_eq mt151 dX12_program_12 (by decide)
theorem s151_15 : aW d 151 15 [.ref o, l1] S h Q = aW d 151 16 [.ref o, l1] (.ref o :: S) h Q := ax_aload_n mt151 dX12_program_15 rfl
theorem s151_16 (hT : gT h o = some (14, 54)) : aW d 151 16 L (.ref o :: S) h Q = aW d 151 19 L (.int (gI h o 45) :: S) h Q := ax_geti mt151 dX12_program_16 (by decide) ft_49287 fk_49287 hT
theorem s151_19 : aW d 151 19 [.ref o, l1] S h Q = aW d 151 20 [.ref o, l1] (.ref o :: S) h Q := ax_aload_n mt151 dX12_program_19 rfl
theorem s151_20 (hT : gT h o = some (14, 54)) : aW d 151 20 L (.ref o :: S) h Q = aW d 151 23 L (.int (gI h o 1) :: S) h Q := ax_geti mt151 dX12_program_20 (by decide) ft_49281 fk_49281 hT
theorem s151_23 : aW d 151 23 L (.int b :: .int a :: S) h Q = (if a < b then aW d 151 26 L S h Q else aW d 151 34 L S h Q) := ax_icmp_ge mt151 dX12_program_23 (by decide)
theorem s151_26 : aW d 151 26 [.ref o, l1] S h Q = aW d 151 27 [.ref o, l1] (.ref o :: S) h Q := ax_aload_n mt151 dX12_program_26 rfl
theorem s151_27 (hT : gT h o = some (14, 54)) : aW (d + 1) 151 27 L (.ref o :: []) h Q = aM d 148 (.ref o :: []) h (fun v h1 => aW (d + 1) 151 30 L (ab_ps v []) h1 Q) := ax_invv mt151 dX12_program_27 (by decide) ct_49323 (.inl rfl) mt148 ⟨⟨Nat.le_of_ble_eq_true rfl, Nat.le_of_ble_eq_true rfl, Nat.le_of_ble_eq_true rfl⟩, rfl, rfl, rfl⟩ hT
theorem s151_30 : aW d 151 30 [l0, l1] (.int a :: S) h Q = aW d 151 31 [l0, .int a] S h Q := ax_istore_n mt151 dX12_program_30 (Nat.le_of_ble_eq_true rfl) rfl
theorem s151_31 : aW d 151 31 L S h Q = aW d 151 11 L S h Q := ax_goto mt151 dX12_program_31 (by decide)
theorem s151_34 : aW d 151 34 [.ref o, l1] S h Q = aW d 151 35 [.ref o, l1] (.ref o :: S) h Q := ax_aload_n mt151 dX12_program_34 rfl
theorem s151_35 : aW d 151 35 L S h Q = aW d 151 36 L (.int (nI 0) :: S) h Q := ax_iconst mt151 dX12_program_35 ic_0
theorem s151_36 (hT : gT h o = some (14, 54)) : aW d 151 36 L (.int a :: .ref o :: S) h Q = aW d 151 39 L S (pI h o 1 a) Q := ax_puti mt151 dX12_program_36 (by decide) ft_49281 (fun q => fn_49281 q.1) fp_49281 hT
theorem s151_39 : aW d 151 39 [l0, .int a] S h Q = aW d 151 40 [l0, .int a] (.int a :: S) h Q := ax_iload_n mt151 dX12_program_39 rfl
theorem s151_40 : aW d 151 40 L (.int a :: S) h Q = (if a = 0 then aW d 151 43 L S h Q else aW d 151 51 L S h Q) := ax_if_ne mt151 dX12_program_40 (by decide)
theorem s151_43 : aW d 151 43 L S h Q = aW d 151 45 L (.int ((-100)) :: S) h Q := ax_bipush mt151 dX12_program_43 bp_m100
theorem s151_45 : aW d 151 45 [.ref o, l1] S h Q = aW d 151 46 [.ref o, l1] (.ref o :: S) h Q := ax_aload_n mt151 dX12_program_45 rfl
theorem s151_46 (hT : gT h o = some (14, 54)) : aW d 151 46 L (.ref o :: S) h Q = aW d 151 49 L (.int (gI h o 45) :: S) h Q := ax_geti mt151 dX12_program_46 (by decide) ft_49287 fk_49287 hT
theorem s151_49 : aW d 151 49 L (.int b :: .int a :: S) h Q = aW d 151 50 L (.int (a - b) :: S) h Q := ax_isub mt151 dX12_program_49
theorem s151_50 : aW d 151 50 L [.int a] h Q = Q (some (.int a)) h := ax_reti mt151 dX12_program_50 rfl
theorem s151_51 : aW d 151 51 [.ref o, l1] S h Q = aW d 151 52 [.ref o, l1] (.ref o :: S) h Q := ax_aload_n mt151 dX12_program_51 rfl
theorem s151_52 (hT : gT h o = some (14, 54)) : aW (d + 1) 151 52 L (.ref o :: []) h Q = aM d 150 (.ref o :: []) h (fun v h1 => aW (d + 1) 151 55 L (ab_ps v []) h1 Q) := ax_invv mt151 dX12_program_52 (by decide) ct_49326 (.inl rfl) mt150 ⟨⟨Nat.le_of_ble_eq_true rfl, Nat.le_of_ble_eq_true rfl, Nat.le_of_ble_eq_true rfl⟩, rfl, rfl, rfl⟩ hT
theorem s151_55 : aW d 151 55 [.ref o, l1] S h Q = aW d 151 56 [.ref o, l1] (.ref o :: S) h Q := ax_aload_n mt151 dX12_program_55 rfl
theorem s151_56 : aW d 151 56 L (.ref o :: S) h Q = aW d 151 57 L (.ref o :: .ref o :: S) h Q := ax_dupa mt151 dX12_program_56
theorem s151_57 (hT : gT h o = some (14, 54)) : aW d 151 57 L (.ref o :: S) h Q = aW d 151 60 L (.int (gI h o 2) :: S) h Q := ax_geti mt151 dX12_program_57 (by decide) ft_49329 fk_49329 hT
theorem s151_60 : aW d 151 60 L S h Q = aW d 151 61 L (.int (nI 1) :: S) h Q := ax_iconst mt151 dX12_program_60 ic_1
theorem s151_61 : aW d 151 61 L (.int b :: .int a :: S) h Q = aW d 151 62 L (.int (a + b) :: S) h Q := ax_iadd mt151 dX12_program_61
theorem s151_62 (hT : gT h o = some (14, 54)) : aW d 151 62 L (.int a :: .ref o :: S) h Q = aW d 151 65 L S (pI h o 2 a) Q := ax_puti mt151 dX12_program_62 (by decide) ft_49329 (fun q => fn_49329 q.1) fp_49329 hT
theorem s151_65 : aW d 151 65 [.ref o, l1] S h Q = aW d 151 66 [.ref o, l1] (.ref o :: S) h Q := ax_aload_n mt151 dX12_program_65 rfl
theorem s151_66 : aW d 151 66 L S h Q = aW d 151 67 L (.int (nI 0) :: S) h Q := ax_iconst mt151 dX12_program_66 ic_0
theorem s151_67 (hT : gT h o = some (14, 54)) : aW d 151 67 L (.int a :: .ref o :: S) h Q = (b01 a ∧ aW d 151 70 L S (pI h o 26 a) Q) := ax_putz mt151 dX12_program_67 (by decide) ft_49332 (fun q => fn_49332 q.1) fp_49332 hT
theorem s151_70 : aW d 151 70 [.ref o, l1] S h Q = aW d 151 71 [.ref o, l1] (.ref o :: S) h Q := ax_aload_n mt151 dX12_program_70 rfl
theorem s151_71 : aW d 151 71 L S h Q = aW d 151 72 L (.int (nI 0) :: S) h Q := ax_iconst mt151 dX12_program_71 ic_0
theorem s151_72 (hT : gT h o = some (14, 54)) : aW d 151 72 L (.int a :: .ref o :: S) h Q = (b01 a ∧ aW d 151 75 L S (pI h o 36 a) Q) := ax_putz mt151 dX12_program_72 (by decide) ft_49336 (fun q => fn_49336 q.1) fp_49336 hT
theorem s151_75 : aW d 151 75 [.ref o, l1] S h Q = aW d 151 76 [.ref o, l1] (.ref o :: S) h Q := ax_aload_n mt151 dX12_program_75 rfl
theorem s151_76 (hT : gT h o = some (14, 54)) : aW (d + 1) 151 76 L (.ref o :: []) h Q = aM d 209 (.ref o :: []) h (fun v h1 => aW (d + 1) 151 79 L (ab_ps v []) h1 Q) := ax_invv mt151 dX12_program_76 (by decide) ct_49339 (.inl rfl) mt209 ⟨⟨Nat.le_of_ble_eq_true rfl, Nat.le_of_ble_eq_true rfl, Nat.le_of_ble_eq_true rfl⟩, rfl, rfl, rfl⟩ hT
theorem s151_79 : aW d 151 79 L (.int a :: S) h Q = aW d 151 80 L S h Q := ax_pop mt151 dX12_program_79
theorem s151_80 : aW d 151 80 [.ref o, l1] S h Q = aW d 151 81 [.ref o, l1] (.ref o :: S) h Q := ax_aload_n mt151 dX12_program_80 rfl
theorem s151_81 (hT : gT h o = some (14, 54)) : aW d 151 81 L (.ref o :: S) h Q = aW d 151 84 L (.int (gI h o 4) :: S) h Q := ax_geti mt151 dX12_program_81 (by decide) ft_49317 fk_49317 hT
theorem s151_84 : aW d 151 84 L [.int a] h Q = Q (some (.int a)) h := ax_reti mt151 dX12_program_84 rfl
-- method 152: BufferRoomModel.letter(II)I
theorem dX12_letter_0 : decode cX12_letter 0 = .ok (.iload_n 1, 1) := by decide +kernel
theorem dX12_letter_1 : decode cX12_letter 1 = .ok (.iconst 0, 1) := by decide +kernel
theorem dX12_letter_2 : decode cX12_letter 2 = .ok (.iconst 3, 1) := by decide +kernel
theorem dX12_letter_3 : decode cX12_letter 3 = .ok (.invokestatic 125, 3) := by decide +kernel
theorem dX12_letter_6 : decode cX12_letter 6 = .ok (.ifCond .ne 5, 3) := by decide +kernel
theorem dX12_letter_9 : decode cX12_letter 9 = .ok (.iconst (-1), 1) := by decide +kernel
theorem dX12_letter_10 : decode cX12_letter 10 = .ok (.ireturn, 1) := by decide +kernel
theorem dX12_letter_11 : decode cX12_letter 11 = .ok (.iload_n 2, 1) := by decide +kernel
theorem dX12_letter_12 : decode cX12_letter 12 = .ok (.iconst 0, 1) := by decide +kernel
theorem dX12_letter_13 : decode cX12_letter 13 = .ok (.bipush 99, 2) := by decide +kernel
theorem dX12_letter_15 : decode cX12_letter 15 = .ok (.invokestatic 125, 3) := by decide +kernel
theorem dX12_letter_18 : decode cX12_letter 18 = .ok (.ifCond .ne 6, 3) := by decide +kernel
theorem dX12_letter_21 : decode cX12_letter 21 = .ok (.bipush (-2), 2) := by decide +kernel
theorem dX12_letter_23 : decode cX12_letter 23 = .ok (.ireturn, 1) := by decide +kernel
theorem dX12_letter_24 : decode cX12_letter 24 = .ok (.aload_n 0, 1) := by decide +kernel
theorem dX12_letter_25 : decode cX12_letter 25 = .ok (.getfield 190, 3) := by decide +kernel
theorem dX12_letter_28 : decode cX12_letter 28 = .ok (.ifCond .le 6, 3) := by decide +kernel
theorem dX12_letter_31 : decode cX12_letter 31 = .ok (.bipush (-3), 2) := by decide +kernel
theorem dX12_letter_33 : decode cX12_letter 33 = .ok (.ireturn, 1) := by decide +kernel
theorem dX12_letter_34 : decode cX12_letter 34 = .ok (.aload_n 0, 1) := by decide +kernel
theorem dX12_letter_35 : decode cX12_letter 35 = .ok (.getfield 13, 3) := by decide +kernel
theorem dX12_letter_38 : decode cX12_letter 38 = .ok (.iload_n 1, 1) := by decide +kernel
theorem dX12_letter_39 : decode cX12_letter 39 = .ok (.iaload, 1) := by decide +kernel
theorem dX12_letter_40 : decode cX12_letter 40 = .ok (.istore_n 3, 1) := by decide +kernel
theorem dX12_letter_41 : decode cX12_letter 41 = .ok (.aload_n 0, 1) := by decide +kernel
theorem dX12_letter_42 : decode cX12_letter 42 = .ok (.getfield 13, 3) := by decide +kernel
theorem dX12_letter_45 : decode cX12_letter 45 = .ok (.iload_n 1, 1) := by decide +kernel
theorem dX12_letter_46 : decode cX12_letter 46 = .ok (.iload_n 2, 1) := by decide +kernel
theorem dX12_letter_47 : decode cX12_letter 47 = .ok (.iastore, 1) := by decide +kernel
theorem dX12_letter_48 : decode cX12_letter 48 = .ok (.iload_n 3, 1) := by decide +kernel
theorem dX12_letter_49 : decode cX12_letter 49 = .ok (.ireturn, 1) := by decide +kernel
theorem s152_0 : aW d 152 0 [l0, .int a, l2, l3] S h Q = aW d 152 1 [l0, .int a, l2, l3] (.int a :: S) h Q := ax_iload_n mt152 dX12_letter_0 rfl
theorem s152_1 : aW d 152 1 L S h Q = aW d 152 2 L (.int (nI 0) :: S) h Q := ax_iconst mt152 dX12_letter_1 ic_0
theorem s152_2 : aW d 152 2 L S h Q = aW d 152 3 L (.int (nI 3) :: S) h Q := ax_iconst mt152 dX12_letter_2 ic_3
theorem s152_3 : aW (d + 1) 152 3 L (.int x2 :: .int x1 :: .int x0 :: []) h Q = aM d 139 [.int x0, .int x1, .int x2] h (fun v h1 => aW (d + 1) 152 6 L (ab_ps v []) h1 Q) := ax_invs mt152 dX12_letter_3 (by decide) ct_49277 (.inl rfl) mt139 ⟨⟨Nat.le_of_ble_eq_true rfl, Nat.le_of_ble_eq_true rfl, Nat.le_of_ble_eq_true rfl⟩, rfl, rfl⟩
theorem s152_6 : aW d 152 6 L (.int a :: S) h Q = (if a = 0 then aW d 152 9 L S h Q else aW d 152 11 L S h Q) := ax_if_ne mt152 dX12_letter_6 (by decide)
theorem s152_9 : aW d 152 9 L S h Q = aW d 152 10 L (.int ((-1)) :: S) h Q := ax_iconst mt152 dX12_letter_9 ic_m1
theorem s152_10 : aW d 152 10 L [.int a] h Q = Q (some (.int a)) h := ax_reti mt152 dX12_letter_10 rfl
theorem s152_11 : aW d 152 11 [l0, l1, .int a, l3] S h Q = aW d 152 12 [l0, l1, .int a, l3] (.int a :: S) h Q := ax_iload_n mt152 dX12_letter_11 rfl
theorem s152_12 : aW d 152 12 L S h Q = aW d 152 13 L (.int (nI 0) :: S) h Q := ax_iconst mt152 dX12_letter_12 ic_0
theorem s152_13 : aW d 152 13 L S h Q = aW d 152 15 L (.int (nI 99) :: S) h Q := ax_bipush mt152 dX12_letter_13 bp_99
theorem s152_15 : aW (d + 1) 152 15 L (.int x2 :: .int x1 :: .int x0 :: []) h Q = aM d 139 [.int x0, .int x1, .int x2] h (fun v h1 => aW (d + 1) 152 18 L (ab_ps v []) h1 Q) := ax_invs mt152 dX12_letter_15 (by decide) ct_49277 (.inl rfl) mt139 ⟨⟨Nat.le_of_ble_eq_true rfl, Nat.le_of_ble_eq_true rfl, Nat.le_of_ble_eq_true rfl⟩, rfl, rfl⟩
theorem s152_18 : aW d 152 18 L (.int a :: S) h Q = (if a = 0 then aW d 152 21 L S h Q else aW d 152 24 L S h Q) := ax_if_ne mt152 dX12_letter_18 (by decide)
theorem s152_21 : aW d 152 21 L S h Q = aW d 152 23 L (.int ((-2)) :: S) h Q := ax_bipush mt152 dX12_letter_21 bp_m2
theorem s152_23 : aW d 152 23 L [.int a] h Q = Q (some (.int a)) h := ax_reti mt152 dX12_letter_23 rfl
theorem s152_24 : aW d 152 24 [.ref o, l1, l2, l3] S h Q = aW d 152 25 [.ref o, l1, l2, l3] (.ref o :: S) h Q := ax_aload_n mt152 dX12_letter_24 rfl
theorem s152_25 (hT : gT h o = some (14, 54)) : aW d 152 25 L (.ref o :: S) h Q = aW d 152 28 L (.int (gI h o 32) :: S) h Q := ax_geti mt152 dX12_letter_25 (by decide) ft_49342 fk_49342 hT
theorem s152_28 : aW d 152 28 L (.int a :: S) h Q = (if 0 < a then aW d 152 31 L S h Q else aW d 152 34 L S h Q) := ax_if_le mt152 dX12_letter_28 (by decide)
theorem s152_31 : aW d 152 31 L S h Q = aW d 152 33 L (.int ((-3)) :: S) h Q := ax_bipush mt152 dX12_letter_31 bp_m3
theorem s152_33 : aW d 152 33 L [.int a] h Q = Q (some (.int a)) h := ax_reti mt152 dX12_letter_33 rfl
theorem s152_34 : aW d 152 34 [.ref o, l1, l2, l3] S h Q = aW d 152 35 [.ref o, l1, l2, l3] (.ref o :: S) h Q := ax_aload_n mt152 dX12_letter_34 rfl
theorem s152_35 (hT : gT h o = some (14, 54)) : aW d 152 35 L (.ref o :: S) h Q = (isRf (gR h o 3) = true ∧ aW d 152 38 L (gR h o 3 :: S) h Q) := ax_geta mt152 dX12_letter_35 (by decide) ft_49165 fk_49165 hT
theorem s152_38 : aW d 152 38 [l0, .int a, l2, l3] S h Q = aW d 152 39 [l0, .int a, l2, l3] (.int a :: S) h Q := ax_iload_n mt152 dX12_letter_38 rfl
theorem s152_39 : aW d 152 39 L (.int a :: .ref o :: S) h Q = (inb a (aI h o) ∧ aW d 152 40 L (.int (gI h o a.toNatClampNeg) :: S) h Q) := ax_iald mt152 dX12_letter_39
theorem s152_40 : aW d 152 40 [l0, l1, l2, l3] (.int a :: S) h Q = aW d 152 41 [l0, l1, l2, .int a] S h Q := ax_istore_n mt152 dX12_letter_40 (Nat.le_of_ble_eq_true rfl) rfl
theorem s152_41 : aW d 152 41 [.ref o, l1, l2, l3] S h Q = aW d 152 42 [.ref o, l1, l2, l3] (.ref o :: S) h Q := ax_aload_n mt152 dX12_letter_41 rfl
theorem s152_42 (hT : gT h o = some (14, 54)) : aW d 152 42 L (.ref o :: S) h Q = (isRf (gR h o 3) = true ∧ aW d 152 45 L (gR h o 3 :: S) h Q) := ax_geta mt152 dX12_letter_42 (by decide) ft_49165 fk_49165 hT
theorem s152_45 : aW d 152 45 [l0, .int a, l2, l3] S h Q = aW d 152 46 [l0, .int a, l2, l3] (.int a :: S) h Q := ax_iload_n mt152 dX12_letter_45 rfl
theorem s152_46 : aW d 152 46 [l0, l1, .int a, l3] S h Q = aW d 152 47 [l0, l1, .int a, l3] (.int a :: S) h Q := ax_iload_n mt152 dX12_letter_46 rfl
theorem s152_47 : aW d 152 47 L (.int b :: .int a :: .ref o :: S) h Q = (inb a (aJ h o) ∧ aW d 152 48 L S (pI h o a.toNatClampNeg b) Q) := ax_iast mt152 dX12_letter_47
theorem s152_48 : aW d 152 48 [l0, l1, l2, .int a] S h Q = aW d 152 49 [l0, l1, l2, .int a] (.int a :: S) h Q := ax_iload_n mt152 dX12_letter_48 rfl
theorem s152_49 : aW d 152 49 L [.int a] h Q = Q (some (.int a)) h := ax_reti mt152 dX12_letter_49 rfl
-- method 153: BufferRoomModel.isBuffer(I)Z
theorem dX12_isBuffer_0 : decode cX12_isBuffer 0 = .ok (.iload_n 1, 1) := by decide +kernel
theorem dX12_isBuffer_1 : decode cX12_isBuffer 1 = .ok (.iconst 0, 1) := by decide +kernel
theorem dX12_isBuffer_2 : decode cX12_isBuffer 2 = .ok (.bipush 11, 2) := by decide +kernel
theorem dX12_isBuffer_4 : decode cX12_isBuffer 4 = .ok (.invokestatic 125, 3) := by decide +kernel
theorem dX12_isBuffer_7 : decode cX12_isBuffer 7 = .ok (.ifCond .eq 30, 3) := by decide +kernel
theorem dX12_isBuffer_10 : decode cX12_isBuffer 10 = .ok (.aload_n 0, 1) := by decide +kernel
theorem dX12_isBuffer_11 : decode cX12_isBuffer 11 = .ok (.getfield 16, 3) := by decide +kernel
theorem dX12_isBuffer_14 : decode cX12_isBuffer 14 = .ok (.iload_n 1, 1) := by decide +kernel
theorem dX12_isBuffer_15 : decode cX12_isBuffer 15 = .ok (.iconst 0, 1) := by decide +kernel
theorem dX12_isBuffer_16 : decode cX12_isBuffer 16 = .ok (.bipush 11, 2) := by decide +kernel
theorem dX12_isBuffer_18 : decode cX12_isBuffer 18 = .ok (.invokestatic 125, 3) := by decide +kernel
theorem dX12_isBuffer_21 : decode cX12_isBuffer 21 = .ok (.ifCond .eq 7, 3) := by decide +kernel
theorem dX12_isBuffer_24 : decode cX12_isBuffer 24 = .ok (.iload_n 1, 1) := by decide +kernel
theorem dX12_isBuffer_25 : decode cX12_isBuffer 25 = .ok (.goto 4, 3) := by decide +kernel
theorem dX12_isBuffer_28 : decode cX12_isBuffer 28 = .ok (.iconst 0, 1) := by decide +kernel
theorem dX12_isBuffer_29 : decode cX12_isBuffer 29 = .ok (.baload, 1) := by decide +kernel
theorem dX12_isBuffer_30 : decode cX12_isBuffer 30 = .ok (.ifCond .eq 7, 3) := by decide +kernel
theorem dX12_isBuffer_33 : decode cX12_isBuffer 33 = .ok (.iconst 1, 1) := by decide +kernel
theorem dX12_isBuffer_34 : decode cX12_isBuffer 34 = .ok (.goto 4, 3) := by decide +kernel
theorem dX12_isBuffer_37 : decode cX12_isBuffer 37 = .ok (.iconst 0, 1) := by decide +kernel
theorem dX12_isBuffer_38 : decode cX12_isBuffer 38 = .ok (.ireturn, 1) := by decide +kernel
theorem s153_0 : aW d 153 0 [l0, .int a] S h Q = aW d 153 1 [l0, .int a] (.int a :: S) h Q := ax_iload_n mt153 dX12_isBuffer_0 rfl
theorem s153_1 : aW d 153 1 L S h Q = aW d 153 2 L (.int (nI 0) :: S) h Q := ax_iconst mt153 dX12_isBuffer_1 ic_0
theorem s153_2 : aW d 153 2 L S h Q = aW d 153 4 L (.int (nI 11) :: S) h Q := ax_bipush mt153 dX12_isBuffer_2 bp_11
theorem s153_4 : aW (d + 1) 153 4 L (.int x2 :: .int x1 :: .int x0 :: []) h Q = aM d 139 [.int x0, .int x1, .int x2] h (fun v h1 => aW (d + 1) 153 7 L (ab_ps v []) h1 Q) := ax_invs mt153 dX12_isBuffer_4 (by decide) ct_49277 (.inl rfl) mt139 ⟨⟨Nat.le_of_ble_eq_true rfl, Nat.le_of_ble_eq_true rfl, Nat.le_of_ble_eq_true rfl⟩, rfl, rfl⟩
theorem s153_7 : aW d 153 7 L (.int a :: S) h Q = (if a = 0 then aW d 153 37 L S h Q else aW d 153 10 L S h Q) := ax_if_eq mt153 dX12_isBuffer_7 (by decide)
theorem s153_10 : aW d 153 10 [.ref o, l1] S h Q = aW d 153 11 [.ref o, l1] (.ref o :: S) h Q := ax_aload_n mt153 dX12_isBuffer_10 rfl
theorem s153_11 (hT : gT h o = some (14, 54)) : aW d 153 11 L (.ref o :: S) h Q = (isRf (gR h o 5) = true ∧ aW d 153 14 L (gR h o 5 :: S) h Q) := ax_geta mt153 dX12_isBuffer_11 (by decide) ft_49168 fk_49168 hT
theorem s153_14 : aW d 153 14 [l0, .int a] S h Q = aW d 153 15 [l0, .int a] (.int a :: S) h Q := ax_iload_n mt153 dX12_isBuffer_14 rfl
theorem s153_15 : aW d 153 15 L S h Q = aW d 153 16 L (.int (nI 0) :: S) h Q := ax_iconst mt153 dX12_isBuffer_15 ic_0
theorem s153_16 : aW d 153 16 L S h Q = aW d 153 18 L (.int (nI 11) :: S) h Q := ax_bipush mt153 dX12_isBuffer_16 bp_11
theorem s153_18 : aW (d + 1) 153 18 L (.int x2 :: .int x1 :: .int x0 :: [.ref q0]) h Q = aM d 139 [.int x0, .int x1, .int x2] h (fun v h1 => aW (d + 1) 153 21 L (ab_ps v [.ref q0]) h1 Q) := ax_invs mt153 dX12_isBuffer_18 (by decide) ct_49277 (.inl rfl) mt139 ⟨⟨Nat.le_of_ble_eq_true rfl, Nat.le_of_ble_eq_true rfl, Nat.le_of_ble_eq_true rfl⟩, rfl, rfl⟩
theorem s153_21 : aW d 153 21 L (.int a :: S) h Q = (if a = 0 then aW d 153 28 L S h Q else aW d 153 24 L S h Q) := ax_if_eq mt153 dX12_isBuffer_21 (by decide)
theorem s153_24 : aW d 153 24 [l0, .int a] S h Q = aW d 153 25 [l0, .int a] (.int a :: S) h Q := ax_iload_n mt153 dX12_isBuffer_24 rfl
theorem s153_25 : aW d 153 25 L S h Q = aW d 153 29 L S h Q := ax_goto mt153 dX12_isBuffer_25 (by decide)
theorem s153_29 : aW d 153 29 L (.int a :: .ref o :: S) h Q = (inb a (aZ h o) ∧ aW d 153 30 L (.int (gI h o a.toNatClampNeg) :: S) h Q) := ax_zald mt153 dX12_isBuffer_29
theorem s153_30 : aW d 153 30 L (.int a :: S) h Q = (if a = 0 then aW d 153 37 L S h Q else aW d 153 33 L S h Q) := ax_if_eq mt153 dX12_isBuffer_30 (by decide)
theorem s153_33 : aW d 153 33 L S h Q = aW d 153 34 L (.int (nI 1) :: S) h Q := ax_iconst mt153 dX12_isBuffer_33 ic_1
theorem s153_34 : aW d 153 34 L S h Q = aW d 153 38 L S h Q := ax_goto mt153 dX12_isBuffer_34 (by decide)
theorem s153_38 : aW d 153 38 L [.int a] h Q = (b01 a ∧ Q (some (.int a)) h) := ax_retz mt153 dX12_isBuffer_38 rfl
theorem s153_28 : aW d 153 28 L S h Q = aW d 153 29 L (.int (nI 0) :: S) h Q := ax_iconst mt153 dX12_isBuffer_28 ic_0
theorem s153_37 : aW d 153 37 L S h Q = aW d 153 38 L (.int (nI 0) :: S) h Q := ax_iconst mt153 dX12_isBuffer_37 ic_0
-- method 154: BufferRoomModel.sizeOf(I)I
theorem dX12_sizeOf_0 : decode cX12_sizeOf 0 = .ok (.iconst 0, 1) := by decide +kernel
theorem dX12_sizeOf_1 : decode cX12_sizeOf 1 = .ok (.istore_n 2, 1) := by decide +kernel
theorem dX12_sizeOf_2 : decode cX12_sizeOf 2 = .ok (.iconst 0, 1) := by decide +kernel
theorem dX12_sizeOf_3 : decode cX12_sizeOf 3 = .ok (.istore_n 3, 1) := by decide +kernel
theorem dX12_sizeOf_4 : decode cX12_sizeOf 4 = .ok (.iload_n 3, 1) := by decide +kernel
theorem dX12_sizeOf_5 : decode cX12_sizeOf 5 = .ok (.aload_n 0, 1) := by decide +kernel
theorem dX12_sizeOf_6 : decode cX12_sizeOf 6 = .ok (.getfield 20, 3) := by decide +kernel
theorem dX12_sizeOf_9 : decode cX12_sizeOf 9 = .ok (.iload_n 1, 1) := by decide +kernel
theorem dX12_sizeOf_10 : decode cX12_sizeOf 10 = .ok (.iaload, 1) := by decide +kernel
theorem dX12_sizeOf_11 : decode cX12_sizeOf 11 = .ok (.if_icmp .ge 61, 3) := by decide +kernel
theorem dX12_sizeOf_14 : decode cX12_sizeOf 14 = .ok (.aload_n 0, 1) := by decide +kernel
theorem dX12_sizeOf_15 : decode cX12_sizeOf 15 = .ok (.getfield 26, 3) := by decide +kernel
theorem dX12_sizeOf_18 : decode cX12_sizeOf 18 = .ok (.iconst 4, 1) := by decide +kernel
theorem dX12_sizeOf_19 : decode cX12_sizeOf 19 = .ok (.iload_n 1, 1) := by decide +kernel
theorem dX12_sizeOf_20 : decode cX12_sizeOf 20 = .ok (.imul, 1) := by decide +kernel
theorem dX12_sizeOf_21 : decode cX12_sizeOf 21 = .ok (.iload_n 3, 1) := by decide +kernel
theorem dX12_sizeOf_22 : decode cX12_sizeOf 22 = .ok (.iadd, 1) := by decide +kernel
theorem dX12_sizeOf_23 : decode cX12_sizeOf 23 = .ok (.iaload, 1) := by decide +kernel
theorem dX12_sizeOf_24 : decode cX12_sizeOf 24 = .ok (.istore 4, 2) := by decide +kernel
theorem dX12_sizeOf_26 : decode cX12_sizeOf 26 = .ok (.iload_n 2, 1) := by decide +kernel
theorem dX12_sizeOf_27 : decode cX12_sizeOf 27 = .ok (.aload_n 0, 1) := by decide +kernel
theorem dX12_sizeOf_28 : decode cX12_sizeOf 28 = .ok (.getfield 23, 3) := by decide +kernel
theorem dX12_sizeOf_31 : decode cX12_sizeOf 31 = .ok (.iconst 4, 1) := by decide +kernel
theorem dX12_sizeOf_32 : decode cX12_sizeOf 32 = .ok (.iload_n 1, 1) := by decide +kernel
theorem dX12_sizeOf_33 : decode cX12_sizeOf 33 = .ok (.imul, 1) := by decide +kernel
theorem dX12_sizeOf_34 : decode cX12_sizeOf 34 = .ok (.iload_n 3, 1) := by decide +kernel
theorem dX12_sizeOf_35 : decode cX12_sizeOf 35 = .ok (.iadd, 1) := by decide +kernel
theorem dX12_sizeOf_36 : decode cX12_sizeOf 36 = .ok (.iaload, 1) := by decide +kernel
theorem dX12_sizeOf_37 : decode cX12_sizeOf 37 = .ok (.iload 4, 2) := by decide +kernel
theorem dX12_sizeOf_39 : decode cX12_sizeOf 39 = .ok (.iconst (-1), 1) := by decide +kernel
theorem dX12_sizeOf_40 : decode cX12_sizeOf 40 = .ok (.if_icmp .ne 7, 3) := by decide +kernel
theorem dX12_sizeOf_43 : decode cX12_sizeOf 43 = .ok (.iconst 1, 1) := by decide +kernel
theorem dX12_sizeOf_44 : decode cX12_sizeOf 44 = .ok (.goto 19, 3) := by decide +kernel
theorem dX12_sizeOf_47 : decode cX12_sizeOf 47 = .ok (.aload_n 0, 1) := by decide +kernel
theorem dX12_sizeOf_48 : decode cX12_sizeOf 48 = .ok (.getfield 13, 3) := by decide +kernel
theorem dX12_sizeOf_51 : decode cX12_sizeOf 51 = .ok (.iload 4, 2) := by decide +kernel
theorem dX12_sizeOf_53 : decode cX12_sizeOf 53 = .ok (.ifCond .ge 7, 3) := by decide +kernel
theorem dX12_sizeOf_56 : decode cX12_sizeOf 56 = .ok (.iconst 0, 1) := by decide +kernel
theorem dX12_sizeOf_57 : decode cX12_sizeOf 57 = .ok (.goto 5, 3) := by decide +kernel
theorem dX12_sizeOf_60 : decode cX12_sizeOf 60 = .ok (.iload 4, 2) := by decide +kernel
theorem dX12_sizeOf_62 : decode cX12_sizeOf 62 = .ok (.iaload, 1) := by decide +kernel
theorem dX12_sizeOf_63 : decode cX12_sizeOf 63 = .ok (.imul, 1) := by decide +kernel
theorem dX12_sizeOf_64 : decode cX12_sizeOf 64 = .ok (.iadd, 1) := by decide +kernel
theorem dX12_sizeOf_65 : decode cX12_sizeOf 65 = .ok (.istore_n 2, 1) := by decide +kernel
theorem dX12_sizeOf_66 : decode cX12_sizeOf 66 = .ok (.iinc 3 1, 3) := by decide +kernel
theorem dX12_sizeOf_69 : decode cX12_sizeOf 69 = .ok (.goto (-65), 3) := by decide +kernel
theorem dX12_sizeOf_72 : decode cX12_sizeOf 72 = .ok (.iload_n 2, 1) := by decide +kernel
theorem dX12_sizeOf_73 : decode cX12_sizeOf 73 = .ok (.ireturn, 1) := by decide +kernel
theorem s154_0 : aW d 154 0 L S h Q = aW d 154 1 L (.int (nI 0) :: S) h Q := ax_iconst mt154 dX12_sizeOf_0 ic_0
theorem s154_1 : aW d 154 1 [l0, l1, l2, l3, l4] (.int a :: S) h Q = aW d 154 2 [l0, l1, .int a, l3, l4] S h Q := ax_istore_n mt154 dX12_sizeOf_1 (Nat.le_of_ble_eq_true rfl) rfl
theorem s154_2 : aW d 154 2 L S h Q = aW d 154 3 L (.int (nI 0) :: S) h Q := ax_iconst mt154 dX12_sizeOf_2 ic_0
theorem s154_3 : aW d 154 3 [l0, l1, l2, l3, l4] (.int a :: S) h Q = aW d 154 4 [l0, l1, l2, .int a, l4] S h Q := ax_istore_n mt154 dX12_sizeOf_3 (Nat.le_of_ble_eq_true rfl) rfl
theorem s154_4 : aW d 154 4 [l0, l1, l2, .int a, l4] S h Q = aW d 154 5 [l0, l1, l2, .int a, l4] (.int a :: S) h Q := ax_iload_n mt154 dX12_sizeOf_4 rfl
theorem s154_5 : aW d 154 5 [.ref o, l1, l2, l3, l4] S h Q = aW d 154 6 [.ref o, l1, l2, l3, l4] (.ref o :: S) h Q := ax_aload_n mt154 dX12_sizeOf_5 rfl
theorem s154_6 (hT : gT h o = some (14, 54)) : aW d 154 6 L (.ref o :: S) h Q = (isRf (gR h o 6) = true ∧ aW d 154 9 L (gR h o 6 :: S) h Q) := ax_geta mt154 dX12_sizeOf_6 (by decide) ft_49172 fk_49172 hT
theorem s154_9 : aW d 154 9 [l0, .int a, l2, l3, l4] S h Q = aW d 154 10 [l0, .int a, l2, l3, l4] (.int a :: S) h Q := ax_iload_n mt154 dX12_sizeOf_9 rfl
theorem s154_10 : aW d 154 10 L (.int a :: .ref o :: S) h Q = (inb a (aI h o) ∧ aW d 154 11 L (.int (gI h o a.toNatClampNeg) :: S) h Q) := ax_iald mt154 dX12_sizeOf_10
theorem s154_11 : aW d 154 11 L (.int b :: .int a :: S) h Q = (if a < b then aW d 154 14 L S h Q else aW d 154 72 L S h Q) := ax_icmp_ge mt154 dX12_sizeOf_11 (by decide)
theorem s154_14 : aW d 154 14 [.ref o, l1, l2, l3, l4] S h Q = aW d 154 15 [.ref o, l1, l2, l3, l4] (.ref o :: S) h Q := ax_aload_n mt154 dX12_sizeOf_14 rfl
theorem s154_15 (hT : gT h o = some (14, 54)) : aW d 154 15 L (.ref o :: S) h Q = (isRf (gR h o 8) = true ∧ aW d 154 18 L (gR h o 8 :: S) h Q) := ax_geta mt154 dX12_sizeOf_15 (by decide) ft_49178 fk_49178 hT
theorem s154_18 : aW d 154 18 L S h Q = aW d 154 19 L (.int (nI 4) :: S) h Q := ax_iconst mt154 dX12_sizeOf_18 ic_4
theorem s154_19 : aW d 154 19 [l0, .int a, l2, l3, l4] S h Q = aW d 154 20 [l0, .int a, l2, l3, l4] (.int a :: S) h Q := ax_iload_n mt154 dX12_sizeOf_19 rfl
theorem s154_20 : aW d 154 20 L (.int b :: .int a :: S) h Q = aW d 154 21 L (.int (a * b) :: S) h Q := ax_imul mt154 dX12_sizeOf_20
theorem s154_21 : aW d 154 21 [l0, l1, l2, .int a, l4] S h Q = aW d 154 22 [l0, l1, l2, .int a, l4] (.int a :: S) h Q := ax_iload_n mt154 dX12_sizeOf_21 rfl
theorem s154_22 : aW d 154 22 L (.int b :: .int a :: S) h Q = aW d 154 23 L (.int (a + b) :: S) h Q := ax_iadd mt154 dX12_sizeOf_22
theorem s154_23 : aW d 154 23 L (.int a :: .ref o :: S) h Q = (inb a (aI h o) ∧ aW d 154 24 L (.int (gI h o a.toNatClampNeg) :: S) h Q) := ax_iald mt154 dX12_sizeOf_23
theorem s154_24 : aW d 154 24 [l0, l1, l2, l3, l4] (.int a :: S) h Q = aW d 154 26 [l0, l1, l2, l3, .int a] S h Q := ax_istore mt154 dX12_sizeOf_24 (Nat.le_of_ble_eq_true rfl) rfl
theorem s154_26 : aW d 154 26 [l0, l1, .int a, l3, l4] S h Q = aW d 154 27 [l0, l1, .int a, l3, l4] (.int a :: S) h Q := ax_iload_n mt154 dX12_sizeOf_26 rfl
theorem s154_27 : aW d 154 27 [.ref o, l1, l2, l3, l4] S h Q = aW d 154 28 [.ref o, l1, l2, l3, l4] (.ref o :: S) h Q := ax_aload_n mt154 dX12_sizeOf_27 rfl
theorem s154_28 (hT : gT h o = some (14, 54)) : aW d 154 28 L (.ref o :: S) h Q = (isRf (gR h o 7) = true ∧ aW d 154 31 L (gR h o 7 :: S) h Q) := ax_geta mt154 dX12_sizeOf_28 (by decide) ft_49175 fk_49175 hT
theorem s154_31 : aW d 154 31 L S h Q = aW d 154 32 L (.int (nI 4) :: S) h Q := ax_iconst mt154 dX12_sizeOf_31 ic_4
theorem s154_32 : aW d 154 32 [l0, .int a, l2, l3, l4] S h Q = aW d 154 33 [l0, .int a, l2, l3, l4] (.int a :: S) h Q := ax_iload_n mt154 dX12_sizeOf_32 rfl
theorem s154_33 : aW d 154 33 L (.int b :: .int a :: S) h Q = aW d 154 34 L (.int (a * b) :: S) h Q := ax_imul mt154 dX12_sizeOf_33
theorem s154_34 : aW d 154 34 [l0, l1, l2, .int a, l4] S h Q = aW d 154 35 [l0, l1, l2, .int a, l4] (.int a :: S) h Q := ax_iload_n mt154 dX12_sizeOf_34 rfl
theorem s154_35 : aW d 154 35 L (.int b :: .int a :: S) h Q = aW d 154 36 L (.int (a + b) :: S) h Q := ax_iadd mt154 dX12_sizeOf_35
theorem s154_36 : aW d 154 36 L (.int a :: .ref o :: S) h Q = (inb a (aI h o) ∧ aW d 154 37 L (.int (gI h o a.toNatClampNeg) :: S) h Q) := ax_iald mt154 dX12_sizeOf_36
theorem s154_37 : aW d 154 37 [l0, l1, l2, l3, .int a] S h Q = aW d 154 39 [l0, l1, l2, l3, .int a] (.int a :: S) h Q := ax_iload mt154 dX12_sizeOf_37 rfl
theorem s154_39 : aW d 154 39 L S h Q = aW d 154 40 L (.int ((-1)) :: S) h Q := ax_iconst mt154 dX12_sizeOf_39 ic_m1
theorem s154_40 : aW d 154 40 L (.int b :: .int a :: S) h Q = (if a = b then aW d 154 43 L S h Q else aW d 154 47 L S h Q) := ax_icmp_ne mt154 dX12_sizeOf_40 (by decide)
theorem s154_43 : aW d 154 43 L S h Q = aW d 154 44 L (.int (nI 1) :: S) h Q := ax_iconst mt154 dX12_sizeOf_43 ic_1
theorem s154_44 : aW d 154 44 L S h Q = aW d 154 63 L S h Q := ax_goto mt154 dX12_sizeOf_44 (by decide)
theorem s154_63 : aW d 154 63 L (.int b :: .int a :: S) h Q = aW d 154 64 L (.int (a * b) :: S) h Q := ax_imul mt154 dX12_sizeOf_63
theorem s154_64 : aW d 154 64 L (.int b :: .int a :: S) h Q = aW d 154 65 L (.int (a + b) :: S) h Q := ax_iadd mt154 dX12_sizeOf_64
theorem s154_65 : aW d 154 65 [l0, l1, l2, l3, l4] (.int a :: S) h Q = aW d 154 66 [l0, l1, .int a, l3, l4] S h Q := ax_istore_n mt154 dX12_sizeOf_65 (Nat.le_of_ble_eq_true rfl) rfl
theorem s154_66 : aW d 154 66 [l0, l1, l2, .int a, l4] S h Q = aW d 154 69 [l0, l1, l2, .int (a + nI 1), l4] S h Q := ax_iinc mt154 dX12_sizeOf_66 rfl ic_1 rfl
theorem s154_69 : aW d 154 69 L S h Q = aW d 154 4 L S h Q := ax_goto mt154 dX12_sizeOf_69 (by decide)
theorem s154_47 : aW d 154 47 [.ref o, l1, l2, l3, l4] S h Q = aW d 154 48 [.ref o, l1, l2, l3, l4] (.ref o :: S) h Q := ax_aload_n mt154 dX12_sizeOf_47 rfl
theorem s154_48 (hT : gT h o = some (14, 54)) : aW d 154 48 L (.ref o :: S) h Q = (isRf (gR h o 3) = true ∧ aW d 154 51 L (gR h o 3 :: S) h Q) := ax_geta mt154 dX12_sizeOf_48 (by decide) ft_49165 fk_49165 hT
theorem s154_51 : aW d 154 51 [l0, l1, l2, l3, .int a] S h Q = aW d 154 53 [l0, l1, l2, l3, .int a] (.int a :: S) h Q := ax_iload mt154 dX12_sizeOf_51 rfl
theorem s154_53 : aW d 154 53 L (.int a :: S) h Q = (if a < 0 then aW d 154 56 L S h Q else aW d 154 60 L S h Q) := ax_if_ge mt154 dX12_sizeOf_53 (by decide)
theorem s154_56 : aW d 154 56 L S h Q = aW d 154 57 L (.int (nI 0) :: S) h Q := ax_iconst mt154 dX12_sizeOf_56 ic_0
theorem s154_57 : aW d 154 57 L S h Q = aW d 154 62 L S h Q := ax_goto mt154 dX12_sizeOf_57 (by decide)
theorem s154_62 : aW d 154 62 L (.int a :: .ref o :: S) h Q = (inb a (aI h o) ∧ aW d 154 63 L (.int (gI h o a.toNatClampNeg) :: S) h Q) := ax_iald mt154 dX12_sizeOf_62
theorem s154_60 : aW d 154 60 [l0, l1, l2, l3, .int a] S h Q = aW d 154 62 [l0, l1, l2, l3, .int a] (.int a :: S) h Q := ax_iload mt154 dX12_sizeOf_60 rfl
theorem s154_72 : aW d 154 72 [l0, l1, .int a, l3, l4] S h Q = aW d 154 73 [l0, l1, .int a, l3, l4] (.int a :: S) h Q := ax_iload_n mt154 dX12_sizeOf_72 rfl
theorem s154_73 : aW d 154 73 L [.int a] h Q = Q (some (.int a)) h := ax_reti mt154 dX12_sizeOf_73 rfl
-- method 155: BufferRoomModel.ticksOf(II)I
theorem dX12_ticksOf_0 : decode cX12_ticksOf 0 = .ok (.iload_n 0, 1) := by decide +kernel
theorem dX12_ticksOf_1 : decode cX12_ticksOf 1 = .ok (.iconst 1, 1) := by decide +kernel
theorem dX12_ticksOf_2 : decode cX12_ticksOf 2 = .ok (.if_icmp .ne 11, 3) := by decide +kernel
theorem dX12_ticksOf_5 : decode cX12_ticksOf 5 = .ok (.iload_n 1, 1) := by decide +kernel
theorem dX12_ticksOf_6 : decode cX12_ticksOf 6 = .ok (.iconst 1, 1) := by decide +kernel
theorem dX12_ticksOf_7 : decode cX12_ticksOf 7 = .ok (.iadd, 1) := by decide +kernel
theorem dX12_ticksOf_8 : decode cX12_ticksOf 8 = .ok (.iconst 2, 1) := by decide +kernel
theorem dX12_ticksOf_9 : decode cX12_ticksOf 9 = .ok (.idiv, 1) := by decide +kernel
theorem dX12_ticksOf_10 : decode cX12_ticksOf 10 = .ok (.goto 30, 3) := by decide +kernel
theorem dX12_ticksOf_13 : decode cX12_ticksOf 13 = .ok (.iload_n 0, 1) := by decide +kernel
theorem dX12_ticksOf_14 : decode cX12_ticksOf 14 = .ok (.iconst 3, 1) := by decide +kernel
theorem dX12_ticksOf_15 : decode cX12_ticksOf 15 = .ok (.if_icmp .ne 13, 3) := by decide +kernel
theorem dX12_ticksOf_18 : decode cX12_ticksOf 18 = .ok (.iload_n 1, 1) := by decide +kernel
theorem dX12_ticksOf_19 : decode cX12_ticksOf 19 = .ok (.iconst 1, 1) := by decide +kernel
theorem dX12_ticksOf_20 : decode cX12_ticksOf 20 = .ok (.iadd, 1) := by decide +kernel
theorem dX12_ticksOf_21 : decode cX12_ticksOf 21 = .ok (.iconst 2, 1) := by decide +kernel
theorem dX12_ticksOf_22 : decode cX12_ticksOf 22 = .ok (.idiv, 1) := by decide +kernel
theorem dX12_ticksOf_23 : decode cX12_ticksOf 23 = .ok (.iconst 2, 1) := by decide +kernel
theorem dX12_ticksOf_24 : decode cX12_ticksOf 24 = .ok (.iadd, 1) := by decide +kernel
theorem dX12_ticksOf_25 : decode cX12_ticksOf 25 = .ok (.goto 15, 3) := by decide +kernel
theorem dX12_ticksOf_28 : decode cX12_ticksOf 28 = .ok (.iload_n 0, 1) := by decide +kernel
theorem dX12_ticksOf_29 : decode cX12_ticksOf 29 = .ok (.iconst 4, 1) := by decide +kernel
theorem dX12_ticksOf_30 : decode cX12_ticksOf 30 = .ok (.if_icmp .ne 9, 3) := by decide +kernel
theorem dX12_ticksOf_33 : decode cX12_ticksOf 33 = .ok (.iconst 3, 1) := by decide +kernel
theorem dX12_ticksOf_34 : decode cX12_ticksOf 34 = .ok (.iload_n 1, 1) := by decide +kernel
theorem dX12_ticksOf_35 : decode cX12_ticksOf 35 = .ok (.imul, 1) := by decide +kernel
theorem dX12_ticksOf_36 : decode cX12_ticksOf 36 = .ok (.goto 4, 3) := by decide +kernel
theorem dX12_ticksOf_39 : decode cX12_ticksOf 39 = .ok (.iload_n 1, 1) := by decide +kernel
theorem dX12_ticksOf_40 : decode cX12_ticksOf 40 = .ok (.ireturn, 1) := by decide +kernel
theorem s155_0 : aW d 155 0 [.int a, l1] S h Q = aW d 155 1 [.int a, l1] (.int a :: S) h Q := ax_iload_n mt155 dX12_ticksOf_0 rfl
theorem s155_1 : aW d 155 1 L S h Q = aW d 155 2 L (.int (nI 1) :: S) h Q := ax_iconst mt155 dX12_ticksOf_1 ic_1
theorem s155_2 : aW d 155 2 L (.int b :: .int a :: S) h Q = (if a = b then aW d 155 5 L S h Q else aW d 155 13 L S h Q) := ax_icmp_ne mt155 dX12_ticksOf_2 (by decide)
theorem s155_5 : aW d 155 5 [l0, .int a] S h Q = aW d 155 6 [l0, .int a] (.int a :: S) h Q := ax_iload_n mt155 dX12_ticksOf_5 rfl
theorem s155_6 : aW d 155 6 L S h Q = aW d 155 7 L (.int (nI 1) :: S) h Q := ax_iconst mt155 dX12_ticksOf_6 ic_1
theorem s155_7 : aW d 155 7 L (.int b :: .int a :: S) h Q = aW d 155 8 L (.int (a + b) :: S) h Q := ax_iadd mt155 dX12_ticksOf_7
theorem s155_8 : aW d 155 8 L S h Q = aW d 155 9 L (.int (nI 2) :: S) h Q := ax_iconst mt155 dX12_ticksOf_8 ic_2
theorem s155_9 : aW d 155 9 L (.int b :: .int a :: S) h Q = ((¬ b = 0) ∧ aW d 155 10 L (.int (a / b) :: S) h Q) := ax_idiv mt155 dX12_ticksOf_9
theorem s155_10 : aW d 155 10 L S h Q = aW d 155 40 L S h Q := ax_goto mt155 dX12_ticksOf_10 (by decide)
theorem s155_40 : aW d 155 40 L [.int a] h Q = Q (some (.int a)) h := ax_reti mt155 dX12_ticksOf_40 rfl
theorem s155_13 : aW d 155 13 [.int a, l1] S h Q = aW d 155 14 [.int a, l1] (.int a :: S) h Q := ax_iload_n mt155 dX12_ticksOf_13 rfl
theorem s155_14 : aW d 155 14 L S h Q = aW d 155 15 L (.int (nI 3) :: S) h Q := ax_iconst mt155 dX12_ticksOf_14 ic_3
theorem s155_15 : aW d 155 15 L (.int b :: .int a :: S) h Q = (if a = b then aW d 155 18 L S h Q else aW d 155 28 L S h Q) := ax_icmp_ne mt155 dX12_ticksOf_15 (by decide)
theorem s155_18 : aW d 155 18 [l0, .int a] S h Q = aW d 155 19 [l0, .int a] (.int a :: S) h Q := ax_iload_n mt155 dX12_ticksOf_18 rfl
theorem s155_19 : aW d 155 19 L S h Q = aW d 155 20 L (.int (nI 1) :: S) h Q := ax_iconst mt155 dX12_ticksOf_19 ic_1
theorem s155_20 : aW d 155 20 L (.int b :: .int a :: S) h Q = aW d 155 21 L (.int (a + b) :: S) h Q := ax_iadd mt155 dX12_ticksOf_20
theorem s155_21 : aW d 155 21 L S h Q = aW d 155 22 L (.int (nI 2) :: S) h Q := ax_iconst mt155 dX12_ticksOf_21 ic_2
theorem s155_22 : aW d 155 22 L (.int b :: .int a :: S) h Q = ((¬ b = 0) ∧ aW d 155 23 L (.int (a / b) :: S) h Q) := ax_idiv mt155 dX12_ticksOf_22
theorem s155_23 : aW d 155 23 L S h Q = aW d 155 24 L (.int (nI 2) :: S) h Q := ax_iconst mt155 dX12_ticksOf_23 ic_2
theorem s155_24 : aW d 155 24 L (.int b :: .int a :: S) h Q = aW d 155 25 L (.int (a + b) :: S) h Q := ax_iadd mt155 dX12_ticksOf_24
theorem s155_25 : aW d 155 25 L S h Q = aW d 155 40 L S h Q := ax_goto mt155 dX12_ticksOf_25 (by decide)
theorem s155_28 : aW d 155 28 [.int a, l1] S h Q = aW d 155 29 [.int a, l1] (.int a :: S) h Q := ax_iload_n mt155 dX12_ticksOf_28 rfl
theorem s155_29 : aW d 155 29 L S h Q = aW d 155 30 L (.int (nI 4) :: S) h Q := ax_iconst mt155 dX12_ticksOf_29 ic_4
theorem s155_30 : aW d 155 30 L (.int b :: .int a :: S) h Q = (if a = b then aW d 155 33 L S h Q else aW d 155 39 L S h Q) := ax_icmp_ne mt155 dX12_ticksOf_30 (by decide)
theorem s155_33 : aW d 155 33 L S h Q = aW d 155 34 L (.int (nI 3) :: S) h Q := ax_iconst mt155 dX12_ticksOf_33 ic_3
theorem s155_34 : aW d 155 34 [l0, .int a] S h Q = aW d 155 35 [l0, .int a] (.int a :: S) h Q := ax_iload_n mt155 dX12_ticksOf_34 rfl
theorem s155_35 : aW d 155 35 L (.int b :: .int a :: S) h Q = aW d 155 36 L (.int (a * b) :: S) h Q := ax_imul mt155 dX12_ticksOf_35
theorem s155_36 : aW d 155 36 L S h Q = aW d 155 40 L S h Q := ax_goto mt155 dX12_ticksOf_36 (by decide)
theorem s155_39 : aW d 155 39 [l0, .int a] S h Q = aW d 155 40 [l0, .int a] (.int a :: S) h Q := ax_iload_n mt155 dX12_ticksOf_39 rfl
-- method 156: BufferRoomModel.scratchOf(III)I
theorem dX12_scratchOf_0 : decode cX12_scratchOf 0 = .ok (.iload_n 0, 1) := by decide +kernel
theorem dX12_scratchOf_1 : decode cX12_scratchOf 1 = .ok (.iconst 2, 1) := by decide +kernel
theorem dX12_scratchOf_2 : decode cX12_scratchOf 2 = .ok (.if_icmp .ne 7, 3) := by decide +kernel
theorem dX12_scratchOf_5 : decode cX12_scratchOf 5 = .ok (.iload_n 2, 1) := by decide +kernel
theorem dX12_scratchOf_6 : decode cX12_scratchOf 6 = .ok (.goto 47, 3) := by decide +kernel
theorem dX12_scratchOf_9 : decode cX12_scratchOf 9 = .ok (.iload_n 0, 1) := by decide +kernel
theorem dX12_scratchOf_10 : decode cX12_scratchOf 10 = .ok (.iconst 3, 1) := by decide +kernel
theorem dX12_scratchOf_11 : decode cX12_scratchOf 11 = .ok (.if_icmp .ne 18, 3) := by decide +kernel
theorem dX12_scratchOf_14 : decode cX12_scratchOf 14 = .ok (.iload_n 1, 1) := by decide +kernel
theorem dX12_scratchOf_15 : decode cX12_scratchOf 15 = .ok (.iload_n 2, 1) := by decide +kernel
theorem dX12_scratchOf_16 : decode cX12_scratchOf 16 = .ok (.if_icmp .le 7, 3) := by decide +kernel
theorem dX12_scratchOf_19 : decode cX12_scratchOf 19 = .ok (.iload_n 1, 1) := by decide +kernel
theorem dX12_scratchOf_20 : decode cX12_scratchOf 20 = .ok (.goto 4, 3) := by decide +kernel
theorem dX12_scratchOf_23 : decode cX12_scratchOf 23 = .ok (.iload_n 2, 1) := by decide +kernel
theorem dX12_scratchOf_24 : decode cX12_scratchOf 24 = .ok (.iconst 2, 1) := by decide +kernel
theorem dX12_scratchOf_25 : decode cX12_scratchOf 25 = .ok (.idiv, 1) := by decide +kernel
theorem dX12_scratchOf_26 : decode cX12_scratchOf 26 = .ok (.goto 27, 3) := by decide +kernel
theorem dX12_scratchOf_29 : decode cX12_scratchOf 29 = .ok (.iload_n 0, 1) := by decide +kernel
theorem dX12_scratchOf_30 : decode cX12_scratchOf 30 = .ok (.iconst 4, 1) := by decide +kernel
theorem dX12_scratchOf_31 : decode cX12_scratchOf 31 = .ok (.if_icmp .ne 9, 3) := by decide +kernel
theorem dX12_scratchOf_34 : decode cX12_scratchOf 34 = .ok (.iload_n 2, 1) := by decide +kernel
theorem dX12_scratchOf_35 : decode cX12_scratchOf 35 = .ok (.iload_n 1, 1) := by decide +kernel
theorem dX12_scratchOf_36 : decode cX12_scratchOf 36 = .ok (.iadd, 1) := by decide +kernel
theorem dX12_scratchOf_37 : decode cX12_scratchOf 37 = .ok (.goto 16, 3) := by decide +kernel
theorem dX12_scratchOf_40 : decode cX12_scratchOf 40 = .ok (.iload_n 0, 1) := by decide +kernel
theorem dX12_scratchOf_41 : decode cX12_scratchOf 41 = .ok (.iconst 5, 1) := by decide +kernel
theorem dX12_scratchOf_42 : decode cX12_scratchOf 42 = .ok (.if_icmp .ne 10, 3) := by decide +kernel
theorem dX12_scratchOf_45 : decode cX12_scratchOf 45 = .ok (.iload_n 2, 1) := by decide +kernel
theorem dX12_scratchOf_46 : decode cX12_scratchOf 46 = .ok (.bipush 8, 2) := by decide +kernel
theorem dX12_scratchOf_48 : decode cX12_scratchOf 48 = .ok (.idiv, 1) := by decide +kernel
theorem dX12_scratchOf_49 : decode cX12_scratchOf 49 = .ok (.goto 4, 3) := by decide +kernel
theorem dX12_scratchOf_52 : decode cX12_scratchOf 52 = .ok (.iconst 0, 1) := by decide +kernel
theorem dX12_scratchOf_53 : decode cX12_scratchOf 53 = .ok (.ireturn, 1) := by decide +kernel
theorem s156_0 : aW d 156 0 [.int a, l1, l2] S h Q = aW d 156 1 [.int a, l1, l2] (.int a :: S) h Q := ax_iload_n mt156 dX12_scratchOf_0 rfl
theorem s156_1 : aW d 156 1 L S h Q = aW d 156 2 L (.int (nI 2) :: S) h Q := ax_iconst mt156 dX12_scratchOf_1 ic_2
theorem s156_2 : aW d 156 2 L (.int b :: .int a :: S) h Q = (if a = b then aW d 156 5 L S h Q else aW d 156 9 L S h Q) := ax_icmp_ne mt156 dX12_scratchOf_2 (by decide)
theorem s156_5 : aW d 156 5 [l0, l1, .int a] S h Q = aW d 156 6 [l0, l1, .int a] (.int a :: S) h Q := ax_iload_n mt156 dX12_scratchOf_5 rfl
theorem s156_6 : aW d 156 6 L S h Q = aW d 156 53 L S h Q := ax_goto mt156 dX12_scratchOf_6 (by decide)
theorem s156_53 : aW d 156 53 L [.int a] h Q = Q (some (.int a)) h := ax_reti mt156 dX12_scratchOf_53 rfl
theorem s156_9 : aW d 156 9 [.int a, l1, l2] S h Q = aW d 156 10 [.int a, l1, l2] (.int a :: S) h Q := ax_iload_n mt156 dX12_scratchOf_9 rfl
theorem s156_10 : aW d 156 10 L S h Q = aW d 156 11 L (.int (nI 3) :: S) h Q := ax_iconst mt156 dX12_scratchOf_10 ic_3
theorem s156_11 : aW d 156 11 L (.int b :: .int a :: S) h Q = (if a = b then aW d 156 14 L S h Q else aW d 156 29 L S h Q) := ax_icmp_ne mt156 dX12_scratchOf_11 (by decide)
theorem s156_14 : aW d 156 14 [l0, .int a, l2] S h Q = aW d 156 15 [l0, .int a, l2] (.int a :: S) h Q := ax_iload_n mt156 dX12_scratchOf_14 rfl
theorem s156_15 : aW d 156 15 [l0, l1, .int a] S h Q = aW d 156 16 [l0, l1, .int a] (.int a :: S) h Q := ax_iload_n mt156 dX12_scratchOf_15 rfl
theorem s156_16 : aW d 156 16 L (.int b :: .int a :: S) h Q = (if b < a then aW d 156 19 L S h Q else aW d 156 23 L S h Q) := ax_icmp_le mt156 dX12_scratchOf_16 (by decide)
theorem s156_19 : aW d 156 19 [l0, .int a, l2] S h Q = aW d 156 20 [l0, .int a, l2] (.int a :: S) h Q := ax_iload_n mt156 dX12_scratchOf_19 rfl
theorem s156_20 : aW d 156 20 L S h Q = aW d 156 24 L S h Q := ax_goto mt156 dX12_scratchOf_20 (by decide)
theorem s156_24 : aW d 156 24 L S h Q = aW d 156 25 L (.int (nI 2) :: S) h Q := ax_iconst mt156 dX12_scratchOf_24 ic_2
theorem s156_25 : aW d 156 25 L (.int b :: .int a :: S) h Q = ((¬ b = 0) ∧ aW d 156 26 L (.int (a / b) :: S) h Q) := ax_idiv mt156 dX12_scratchOf_25
theorem s156_26 : aW d 156 26 L S h Q = aW d 156 53 L S h Q := ax_goto mt156 dX12_scratchOf_26 (by decide)
theorem s156_23 : aW d 156 23 [l0, l1, .int a] S h Q = aW d 156 24 [l0, l1, .int a] (.int a :: S) h Q := ax_iload_n mt156 dX12_scratchOf_23 rfl
theorem s156_29 : aW d 156 29 [.int a, l1, l2] S h Q = aW d 156 30 [.int a, l1, l2] (.int a :: S) h Q := ax_iload_n mt156 dX12_scratchOf_29 rfl
theorem s156_30 : aW d 156 30 L S h Q = aW d 156 31 L (.int (nI 4) :: S) h Q := ax_iconst mt156 dX12_scratchOf_30 ic_4
theorem s156_31 : aW d 156 31 L (.int b :: .int a :: S) h Q = (if a = b then aW d 156 34 L S h Q else aW d 156 40 L S h Q) := ax_icmp_ne mt156 dX12_scratchOf_31 (by decide)
theorem s156_34 : aW d 156 34 [l0, l1, .int a] S h Q = aW d 156 35 [l0, l1, .int a] (.int a :: S) h Q := ax_iload_n mt156 dX12_scratchOf_34 rfl
theorem s156_35 : aW d 156 35 [l0, .int a, l2] S h Q = aW d 156 36 [l0, .int a, l2] (.int a :: S) h Q := ax_iload_n mt156 dX12_scratchOf_35 rfl
theorem s156_36 : aW d 156 36 L (.int b :: .int a :: S) h Q = aW d 156 37 L (.int (a + b) :: S) h Q := ax_iadd mt156 dX12_scratchOf_36
theorem s156_37 : aW d 156 37 L S h Q = aW d 156 53 L S h Q := ax_goto mt156 dX12_scratchOf_37 (by decide)
theorem s156_40 : aW d 156 40 [.int a, l1, l2] S h Q = aW d 156 41 [.int a, l1, l2] (.int a :: S) h Q := ax_iload_n mt156 dX12_scratchOf_40 rfl
theorem s156_41 : aW d 156 41 L S h Q = aW d 156 42 L (.int (nI 5) :: S) h Q := ax_iconst mt156 dX12_scratchOf_41 ic_5
theorem s156_42 : aW d 156 42 L (.int b :: .int a :: S) h Q = (if a = b then aW d 156 45 L S h Q else aW d 156 52 L S h Q) := ax_icmp_ne mt156 dX12_scratchOf_42 (by decide)
theorem s156_45 : aW d 156 45 [l0, l1, .int a] S h Q = aW d 156 46 [l0, l1, .int a] (.int a :: S) h Q := ax_iload_n mt156 dX12_scratchOf_45 rfl
theorem s156_46 : aW d 156 46 L S h Q = aW d 156 48 L (.int (nI 8) :: S) h Q := ax_bipush mt156 dX12_scratchOf_46 bp_8
theorem s156_48 : aW d 156 48 L (.int b :: .int a :: S) h Q = ((¬ b = 0) ∧ aW d 156 49 L (.int (a / b) :: S) h Q) := ax_idiv mt156 dX12_scratchOf_48
theorem s156_49 : aW d 156 49 L S h Q = aW d 156 53 L S h Q := ax_goto mt156 dX12_scratchOf_49 (by decide)
theorem s156_52 : aW d 156 52 L S h Q = aW d 156 53 L (.int (nI 0) :: S) h Q := ax_iconst mt156 dX12_scratchOf_52 ic_0
-- method 157: BufferRoomModel.isOver(I)Z
theorem dX12_isOver_0 : decode cX12_isOver 0 = .ok (.iload_n 0, 1) := by decide +kernel
theorem dX12_isOver_1 : decode cX12_isOver 1 = .ok (.iconst 2, 1) := by decide +kernel
theorem dX12_isOver_2 : decode cX12_isOver 2 = .ok (.if_icmp .eq 8, 3) := by decide +kernel
theorem dX12_isOver_5 : decode cX12_isOver 5 = .ok (.iload_n 0, 1) := by decide +kernel
theorem dX12_isOver_6 : decode cX12_isOver 6 = .ok (.iconst 4, 1) := by decide +kernel
theorem dX12_isOver_7 : decode cX12_isOver 7 = .ok (.if_icmp .lt 7, 3) := by decide +kernel
theorem dX12_isOver_10 : decode cX12_isOver 10 = .ok (.iconst 1, 1) := by decide +kernel
theorem dX12_isOver_11 : decode cX12_isOver 11 = .ok (.goto 4, 3) := by decide +kernel
theorem dX12_isOver_14 : decode cX12_isOver 14 = .ok (.iconst 0, 1) := by decide +kernel
theorem dX12_isOver_15 : decode cX12_isOver 15 = .ok (.ireturn, 1) := by decide +kernel
theorem s157_0 : aW d 157 0 [.int a] S h Q = aW d 157 1 [.int a] (.int a :: S) h Q := ax_iload_n mt157 dX12_isOver_0 rfl
theorem s157_1 : aW d 157 1 L S h Q = aW d 157 2 L (.int (nI 2) :: S) h Q := ax_iconst mt157 dX12_isOver_1 ic_2
theorem s157_2 : aW d 157 2 L (.int b :: .int a :: S) h Q = (if a = b then aW d 157 10 L S h Q else aW d 157 5 L S h Q) := ax_icmp_eq mt157 dX12_isOver_2 (by decide)
theorem s157_5 : aW d 157 5 [.int a] S h Q = aW d 157 6 [.int a] (.int a :: S) h Q := ax_iload_n mt157 dX12_isOver_5 rfl
theorem s157_6 : aW d 157 6 L S h Q = aW d 157 7 L (.int (nI 4) :: S) h Q := ax_iconst mt157 dX12_isOver_6 ic_4
theorem s157_7 : aW d 157 7 L (.int b :: .int a :: S) h Q = (if a < b then aW d 157 14 L S h Q else aW d 157 10 L S h Q) := ax_icmp_lt mt157 dX12_isOver_7 (by decide)
theorem s157_14 : aW d 157 14 L S h Q = aW d 157 15 L (.int (nI 0) :: S) h Q := ax_iconst mt157 dX12_isOver_14 ic_0
theorem s157_15 : aW d 157 15 L [.int a] h Q = (b01 a ∧ Q (some (.int a)) h) := ax_retz mt157 dX12_isOver_15 rfl
theorem s157_10 : aW d 157 10 L S h Q = aW d 157 11 L (.int (nI 1) :: S) h Q := ax_iconst mt157 dX12_isOver_10 ic_1
theorem s157_11 : aW d 157 11 L S h Q = aW d 157 15 L S h Q := ax_goto mt157 dX12_isOver_11 (by decide)
-- method 158: BufferRoomModel.kindTold(IIII)I
theorem dX12_kindTold_0 : decode cX12_kindTold 0 = .ok (.iload_n 1, 1) := by decide +kernel
theorem dX12_kindTold_1 : decode cX12_kindTold 1 = .ok (.iconst 0, 1) := by decide +kernel
theorem dX12_kindTold_2 : decode cX12_kindTold 2 = .ok (.iconst 5, 1) := by decide +kernel
theorem dX12_kindTold_3 : decode cX12_kindTold 3 = .ok (.invokestatic 125, 3) := by decide +kernel
theorem dX12_kindTold_6 : decode cX12_kindTold 6 = .ok (.ifCond .eq 35, 3) := by decide +kernel
theorem dX12_kindTold_9 : decode cX12_kindTold 9 = .ok (.iload_n 2, 1) := by decide +kernel
theorem dX12_kindTold_10 : decode cX12_kindTold 10 = .ok (.iconst 0, 1) := by decide +kernel
theorem dX12_kindTold_11 : decode cX12_kindTold 11 = .ok (.iconst 2, 1) := by decide +kernel
theorem dX12_kindTold_12 : decode cX12_kindTold 12 = .ok (.invokestatic 125, 3) := by decide +kernel
theorem dX12_kindTold_15 : decode cX12_kindTold 15 = .ok (.ifCond .eq 26, 3) := by decide +kernel
theorem dX12_kindTold_18 : decode cX12_kindTold 18 = .ok (.iload_n 3, 1) := by decide +kernel
theorem dX12_kindTold_19 : decode cX12_kindTold 19 = .ok (.iconst 0, 1) := by decide +kernel
theorem dX12_kindTold_20 : decode cX12_kindTold 20 = .ok (.sipush 999, 3) := by decide +kernel
theorem dX12_kindTold_23 : decode cX12_kindTold 23 = .ok (.invokestatic 125, 3) := by decide +kernel
theorem dX12_kindTold_26 : decode cX12_kindTold 26 = .ok (.ifCond .eq 15, 3) := by decide +kernel
theorem dX12_kindTold_29 : decode cX12_kindTold 29 = .ok (.iload 4, 2) := by decide +kernel
theorem dX12_kindTold_31 : decode cX12_kindTold 31 = .ok (.iconst 0, 1) := by decide +kernel
theorem dX12_kindTold_32 : decode cX12_kindTold 32 = .ok (.sipush 999, 3) := by decide +kernel
theorem dX12_kindTold_35 : decode cX12_kindTold 35 = .ok (.invokestatic 125, 3) := by decide +kernel
theorem dX12_kindTold_38 : decode cX12_kindTold 38 = .ok (.ifCond .ne 6, 3) := by decide +kernel
theorem dX12_kindTold_41 : decode cX12_kindTold 41 = .ok (.bipush (-2), 2) := by decide +kernel
theorem dX12_kindTold_43 : decode cX12_kindTold 43 = .ok (.ireturn, 1) := by decide +kernel
theorem dX12_kindTold_44 : decode cX12_kindTold 44 = .ok (.iload_n 2, 1) := by decide +kernel
theorem dX12_kindTold_45 : decode cX12_kindTold 45 = .ok (.ifCond .ne 11, 3) := by decide +kernel
theorem dX12_kindTold_48 : decode cX12_kindTold 48 = .ok (.iload_n 1, 1) := by decide +kernel
theorem dX12_kindTold_49 : decode cX12_kindTold 49 = .ok (.iload_n 3, 1) := by decide +kernel
theorem dX12_kindTold_50 : decode cX12_kindTold 50 = .ok (.invokestatic 193, 3) := by decide +kernel
theorem dX12_kindTold_53 : decode cX12_kindTold 53 = .ok (.goto 30, 3) := by decide +kernel
theorem dX12_kindTold_56 : decode cX12_kindTold 56 = .ok (.iload_n 2, 1) := by decide +kernel
theorem dX12_kindTold_57 : decode cX12_kindTold 57 = .ok (.iconst 1, 1) := by decide +kernel
theorem dX12_kindTold_58 : decode cX12_kindTold 58 = .ok (.if_icmp .ne 13, 3) := by decide +kernel
theorem dX12_kindTold_61 : decode cX12_kindTold 61 = .ok (.iload_n 1, 1) := by decide +kernel
theorem dX12_kindTold_62 : decode cX12_kindTold 62 = .ok (.iload_n 3, 1) := by decide +kernel
theorem dX12_kindTold_63 : decode cX12_kindTold 63 = .ok (.iload 4, 2) := by decide +kernel
theorem dX12_kindTold_65 : decode cX12_kindTold 65 = .ok (.invokestatic 197, 3) := by decide +kernel
theorem dX12_kindTold_68 : decode cX12_kindTold 68 = .ok (.goto 15, 3) := by decide +kernel
theorem dX12_kindTold_71 : decode cX12_kindTold 71 = .ok (.iload_n 1, 1) := by decide +kernel
theorem dX12_kindTold_72 : decode cX12_kindTold 72 = .ok (.invokestatic 201, 3) := by decide +kernel
theorem dX12_kindTold_75 : decode cX12_kindTold 75 = .ok (.ifCond .eq 7, 3) := by decide +kernel
theorem dX12_kindTold_78 : decode cX12_kindTold 78 = .ok (.iconst 1, 1) := by decide +kernel
theorem dX12_kindTold_79 : decode cX12_kindTold 79 = .ok (.goto 4, 3) := by decide +kernel
theorem dX12_kindTold_82 : decode cX12_kindTold 82 = .ok (.iconst 0, 1) := by decide +kernel
theorem dX12_kindTold_83 : decode cX12_kindTold 83 = .ok (.ireturn, 1) := by decide +kernel
theorem s158_0 : aW d 158 0 [l0, .int a, l2, l3, l4] S h Q = aW d 158 1 [l0, .int a, l2, l3, l4] (.int a :: S) h Q := ax_iload_n mt158 dX12_kindTold_0 rfl
theorem s158_1 : aW d 158 1 L S h Q = aW d 158 2 L (.int (nI 0) :: S) h Q := ax_iconst mt158 dX12_kindTold_1 ic_0
theorem s158_2 : aW d 158 2 L S h Q = aW d 158 3 L (.int (nI 5) :: S) h Q := ax_iconst mt158 dX12_kindTold_2 ic_5
theorem s158_3 : aW (d + 1) 158 3 L (.int x2 :: .int x1 :: .int x0 :: []) h Q = aM d 139 [.int x0, .int x1, .int x2] h (fun v h1 => aW (d + 1) 158 6 L (ab_ps v []) h1 Q) := ax_invs mt158 dX12_kindTold_3 (by decide) ct_49277 (.inl rfl) mt139 ⟨⟨Nat.le_of_ble_eq_true rfl, Nat.le_of_ble_eq_true rfl, Nat.le_of_ble_eq_true rfl⟩, rfl, rfl⟩
theorem s158_6 : aW d 158 6 L (.int a :: S) h Q = (if a = 0 then aW d 158 41 L S h Q else aW d 158 9 L S h Q) := ax_if_eq mt158 dX12_kindTold_6 (by decide)
theorem s158_9 : aW d 158 9 [l0, l1, .int a, l3, l4] S h Q = aW d 158 10 [l0, l1, .int a, l3, l4] (.int a :: S) h Q := ax_iload_n mt158 dX12_kindTold_9 rfl
theorem s158_10 : aW d 158 10 L S h Q = aW d 158 11 L (.int (nI 0) :: S) h Q := ax_iconst mt158 dX12_kindTold_10 ic_0
theorem s158_11 : aW d 158 11 L S h Q = aW d 158 12 L (.int (nI 2) :: S) h Q := ax_iconst mt158 dX12_kindTold_11 ic_2
theorem s158_12 : aW (d + 1) 158 12 L (.int x2 :: .int x1 :: .int x0 :: []) h Q = aM d 139 [.int x0, .int x1, .int x2] h (fun v h1 => aW (d + 1) 158 15 L (ab_ps v []) h1 Q) := ax_invs mt158 dX12_kindTold_12 (by decide) ct_49277 (.inl rfl) mt139 ⟨⟨Nat.le_of_ble_eq_true rfl, Nat.le_of_ble_eq_true rfl, Nat.le_of_ble_eq_true rfl⟩, rfl, rfl⟩
theorem s158_15 : aW d 158 15 L (.int a :: S) h Q = (if a = 0 then aW d 158 41 L S h Q else aW d 158 18 L S h Q) := ax_if_eq mt158 dX12_kindTold_15 (by decide)
theorem s158_18 : aW d 158 18 [l0, l1, l2, .int a, l4] S h Q = aW d 158 19 [l0, l1, l2, .int a, l4] (.int a :: S) h Q := ax_iload_n mt158 dX12_kindTold_18 rfl
theorem s158_19 : aW d 158 19 L S h Q = aW d 158 20 L (.int (nI 0) :: S) h Q := ax_iconst mt158 dX12_kindTold_19 ic_0
theorem s158_20 : aW d 158 20 L S h Q = aW d 158 23 L (.int (nI 999) :: S) h Q := ax_sipush mt158 dX12_kindTold_20 sp_999
theorem s158_23 : aW (d + 1) 158 23 L (.int x2 :: .int x1 :: .int x0 :: []) h Q = aM d 139 [.int x0, .int x1, .int x2] h (fun v h1 => aW (d + 1) 158 26 L (ab_ps v []) h1 Q) := ax_invs mt158 dX12_kindTold_23 (by decide) ct_49277 (.inl rfl) mt139 ⟨⟨Nat.le_of_ble_eq_true rfl, Nat.le_of_ble_eq_true rfl, Nat.le_of_ble_eq_true rfl⟩, rfl, rfl⟩
theorem s158_26 : aW d 158 26 L (.int a :: S) h Q = (if a = 0 then aW d 158 41 L S h Q else aW d 158 29 L S h Q) := ax_if_eq mt158 dX12_kindTold_26 (by decide)
theorem s158_29 : aW d 158 29 [l0, l1, l2, l3, .int a] S h Q = aW d 158 31 [l0, l1, l2, l3, .int a] (.int a :: S) h Q := ax_iload mt158 dX12_kindTold_29 rfl
theorem s158_31 : aW d 158 31 L S h Q = aW d 158 32 L (.int (nI 0) :: S) h Q := ax_iconst mt158 dX12_kindTold_31 ic_0
theorem s158_32 : aW d 158 32 L S h Q = aW d 158 35 L (.int (nI 999) :: S) h Q := ax_sipush mt158 dX12_kindTold_32 sp_999
theorem s158_35 : aW (d + 1) 158 35 L (.int x2 :: .int x1 :: .int x0 :: []) h Q = aM d 139 [.int x0, .int x1, .int x2] h (fun v h1 => aW (d + 1) 158 38 L (ab_ps v []) h1 Q) := ax_invs mt158 dX12_kindTold_35 (by decide) ct_49277 (.inl rfl) mt139 ⟨⟨Nat.le_of_ble_eq_true rfl, Nat.le_of_ble_eq_true rfl, Nat.le_of_ble_eq_true rfl⟩, rfl, rfl⟩
theorem s158_38 : aW d 158 38 L (.int a :: S) h Q = (if a = 0 then aW d 158 41 L S h Q else aW d 158 44 L S h Q) := ax_if_ne mt158 dX12_kindTold_38 (by decide)
theorem s158_44 : aW d 158 44 [l0, l1, .int a, l3, l4] S h Q = aW d 158 45 [l0, l1, .int a, l3, l4] (.int a :: S) h Q := ax_iload_n mt158 dX12_kindTold_44 rfl
theorem s158_45 : aW d 158 45 L (.int a :: S) h Q = (if a = 0 then aW d 158 48 L S h Q else aW d 158 56 L S h Q) := ax_if_ne mt158 dX12_kindTold_45 (by decide)
theorem s158_48 : aW d 158 48 [l0, .int a, l2, l3, l4] S h Q = aW d 158 49 [l0, .int a, l2, l3, l4] (.int a :: S) h Q := ax_iload_n mt158 dX12_kindTold_48 rfl
theorem s158_49 : aW d 158 49 [l0, l1, l2, .int a, l4] S h Q = aW d 158 50 [l0, l1, l2, .int a, l4] (.int a :: S) h Q := ax_iload_n mt158 dX12_kindTold_49 rfl
theorem s158_50 : aW (d + 1) 158 50 L (.int x1 :: .int x0 :: []) h Q = aM d 155 [.int x0, .int x1] h (fun v h1 => aW (d + 1) 158 53 L (ab_ps v []) h1 Q) := ax_invs mt158 dX12_kindTold_50 (by decide) ct_49345 (.inl rfl) mt155 ⟨⟨Nat.le_of_ble_eq_true rfl, Nat.le_of_ble_eq_true rfl, Nat.le_of_ble_eq_true rfl⟩, rfl, rfl⟩
theorem s158_53 : aW d 158 53 L S h Q = aW d 158 83 L S h Q := ax_goto mt158 dX12_kindTold_53 (by decide)
theorem s158_83 : aW d 158 83 L [.int a] h Q = Q (some (.int a)) h := ax_reti mt158 dX12_kindTold_83 rfl
theorem s158_56 : aW d 158 56 [l0, l1, .int a, l3, l4] S h Q = aW d 158 57 [l0, l1, .int a, l3, l4] (.int a :: S) h Q := ax_iload_n mt158 dX12_kindTold_56 rfl
theorem s158_57 : aW d 158 57 L S h Q = aW d 158 58 L (.int (nI 1) :: S) h Q := ax_iconst mt158 dX12_kindTold_57 ic_1
theorem s158_58 : aW d 158 58 L (.int b :: .int a :: S) h Q = (if a = b then aW d 158 61 L S h Q else aW d 158 71 L S h Q) := ax_icmp_ne mt158 dX12_kindTold_58 (by decide)
theorem s158_61 : aW d 158 61 [l0, .int a, l2, l3, l4] S h Q = aW d 158 62 [l0, .int a, l2, l3, l4] (.int a :: S) h Q := ax_iload_n mt158 dX12_kindTold_61 rfl
theorem s158_62 : aW d 158 62 [l0, l1, l2, .int a, l4] S h Q = aW d 158 63 [l0, l1, l2, .int a, l4] (.int a :: S) h Q := ax_iload_n mt158 dX12_kindTold_62 rfl
theorem s158_63 : aW d 158 63 [l0, l1, l2, l3, .int a] S h Q = aW d 158 65 [l0, l1, l2, l3, .int a] (.int a :: S) h Q := ax_iload mt158 dX12_kindTold_63 rfl
theorem s158_65 : aW (d + 1) 158 65 L (.int x2 :: .int x1 :: .int x0 :: []) h Q = aM d 156 [.int x0, .int x1, .int x2] h (fun v h1 => aW (d + 1) 158 68 L (ab_ps v []) h1 Q) := ax_invs mt158 dX12_kindTold_65 (by decide) ct_49349 (.inl rfl) mt156 ⟨⟨Nat.le_of_ble_eq_true rfl, Nat.le_of_ble_eq_true rfl, Nat.le_of_ble_eq_true rfl⟩, rfl, rfl⟩
theorem s158_68 : aW d 158 68 L S h Q = aW d 158 83 L S h Q := ax_goto mt158 dX12_kindTold_68 (by decide)
theorem s158_71 : aW d 158 71 [l0, .int a, l2, l3, l4] S h Q = aW d 158 72 [l0, .int a, l2, l3, l4] (.int a :: S) h Q := ax_iload_n mt158 dX12_kindTold_71 rfl
theorem s158_72 : aW (d + 1) 158 72 L (.int x0 :: []) h Q = aM d 157 [.int x0] h (fun v h1 => aW (d + 1) 158 75 L (ab_ps v []) h1 Q) := ax_invs mt158 dX12_kindTold_72 (by decide) ct_49353 (.inl rfl) mt157 ⟨⟨Nat.le_of_ble_eq_true rfl, Nat.le_of_ble_eq_true rfl, Nat.le_of_ble_eq_true rfl⟩, rfl, rfl⟩
theorem s158_75 : aW d 158 75 L (.int a :: S) h Q = (if a = 0 then aW d 158 82 L S h Q else aW d 158 78 L S h Q) := ax_if_eq mt158 dX12_kindTold_75 (by decide)
theorem s158_78 : aW d 158 78 L S h Q = aW d 158 79 L (.int (nI 1) :: S) h Q := ax_iconst mt158 dX12_kindTold_78 ic_1
theorem s158_79 : aW d 158 79 L S h Q = aW d 158 83 L S h Q := ax_goto mt158 dX12_kindTold_79 (by decide)
theorem s158_82 : aW d 158 82 L S h Q = aW d 158 83 L (.int (nI 0) :: S) h Q := ax_iconst mt158 dX12_kindTold_82 ic_0
theorem s158_41 : aW d 158 41 L S h Q = aW d 158 43 L (.int ((-2)) :: S) h Q := ax_bipush mt158 dX12_kindTold_41 bp_m2
theorem s158_43 : aW d 158 43 L [.int a] h Q = Q (some (.int a)) h := ax_reti mt158 dX12_kindTold_43 rfl
-- method 159: BufferRoomModel.scratch(I)I
theorem dX12_scratch_0 : decode cX12_scratch 0 = .ok (.iconst 0, 1) := by decide +kernel
theorem dX12_scratch_1 : decode cX12_scratch 1 = .ok (.istore_n 2, 1) := by decide +kernel
theorem dX12_scratch_2 : decode cX12_scratch 2 = .ok (.iconst 0, 1) := by decide +kernel
theorem dX12_scratch_3 : decode cX12_scratch 3 = .ok (.istore_n 3, 1) := by decide +kernel
theorem dX12_scratch_4 : decode cX12_scratch 4 = .ok (.iload_n 3, 1) := by decide +kernel
theorem dX12_scratch_5 : decode cX12_scratch 5 = .ok (.aload_n 0, 1) := by decide +kernel
theorem dX12_scratch_6 : decode cX12_scratch 6 = .ok (.getfield 41, 3) := by decide +kernel
theorem dX12_scratch_9 : decode cX12_scratch 9 = .ok (.iload_n 1, 1) := by decide +kernel
theorem dX12_scratch_10 : decode cX12_scratch 10 = .ok (.iaload, 1) := by decide +kernel
theorem dX12_scratch_11 : decode cX12_scratch 11 = .ok (.if_icmp .ge 26, 3) := by decide +kernel
theorem dX12_scratch_14 : decode cX12_scratch 14 = .ok (.iload_n 2, 1) := by decide +kernel
theorem dX12_scratch_15 : decode cX12_scratch 15 = .ok (.aload_n 0, 1) := by decide +kernel
theorem dX12_scratch_16 : decode cX12_scratch 16 = .ok (.aload_n 0, 1) := by decide +kernel
theorem dX12_scratch_17 : decode cX12_scratch 17 = .ok (.getfield 44, 3) := by decide +kernel
theorem dX12_scratch_20 : decode cX12_scratch 20 = .ok (.iconst 4, 1) := by decide +kernel
theorem dX12_scratch_21 : decode cX12_scratch 21 = .ok (.iload_n 1, 1) := by decide +kernel
theorem dX12_scratch_22 : decode cX12_scratch 22 = .ok (.imul, 1) := by decide +kernel
theorem dX12_scratch_23 : decode cX12_scratch 23 = .ok (.iload_n 3, 1) := by decide +kernel
theorem dX12_scratch_24 : decode cX12_scratch 24 = .ok (.iadd, 1) := by decide +kernel
theorem dX12_scratch_25 : decode cX12_scratch 25 = .ok (.iaload, 1) := by decide +kernel
theorem dX12_scratch_26 : decode cX12_scratch 26 = .ok (.invokevirtual 204, 3) := by decide +kernel
theorem dX12_scratch_29 : decode cX12_scratch 29 = .ok (.iadd, 1) := by decide +kernel
theorem dX12_scratch_30 : decode cX12_scratch 30 = .ok (.istore_n 2, 1) := by decide +kernel
theorem dX12_scratch_31 : decode cX12_scratch 31 = .ok (.iinc 3 1, 3) := by decide +kernel
theorem dX12_scratch_34 : decode cX12_scratch 34 = .ok (.goto (-30), 3) := by decide +kernel
theorem dX12_scratch_37 : decode cX12_scratch 37 = .ok (.aload_n 0, 1) := by decide +kernel
theorem dX12_scratch_38 : decode cX12_scratch 38 = .ok (.getfield 32, 3) := by decide +kernel
theorem dX12_scratch_41 : decode cX12_scratch 41 = .ok (.iload_n 1, 1) := by decide +kernel
theorem dX12_scratch_42 : decode cX12_scratch 42 = .ok (.iaload, 1) := by decide +kernel
theorem dX12_scratch_43 : decode cX12_scratch 43 = .ok (.iload_n 2, 1) := by decide +kernel
theorem dX12_scratch_44 : decode cX12_scratch 44 = .ok (.aload_n 0, 1) := by decide +kernel
theorem dX12_scratch_45 : decode cX12_scratch 45 = .ok (.aload_n 0, 1) := by decide +kernel
theorem dX12_scratch_46 : decode cX12_scratch 46 = .ok (.getfield 38, 3) := by decide +kernel
theorem dX12_scratch_49 : decode cX12_scratch 49 = .ok (.iload_n 1, 1) := by decide +kernel
theorem dX12_scratch_50 : decode cX12_scratch 50 = .ok (.iaload, 1) := by decide +kernel
theorem dX12_scratch_51 : decode cX12_scratch 51 = .ok (.invokevirtual 204, 3) := by decide +kernel
theorem dX12_scratch_54 : decode cX12_scratch 54 = .ok (.invokestatic 197, 3) := by decide +kernel
theorem dX12_scratch_57 : decode cX12_scratch 57 = .ok (.ireturn, 1) := by decide +kernel
theorem s159_0 : aW d 159 0 L S h Q = aW d 159 1 L (.int (nI 0) :: S) h Q := ax_iconst mt159 dX12_scratch_0 ic_0
theorem s159_1 : aW d 159 1 [l0, l1, l2, l3] (.int a :: S) h Q = aW d 159 2 [l0, l1, .int a, l3] S h Q := ax_istore_n mt159 dX12_scratch_1 (Nat.le_of_ble_eq_true rfl) rfl
theorem s159_2 : aW d 159 2 L S h Q = aW d 159 3 L (.int (nI 0) :: S) h Q := ax_iconst mt159 dX12_scratch_2 ic_0
theorem s159_3 : aW d 159 3 [l0, l1, l2, l3] (.int a :: S) h Q = aW d 159 4 [l0, l1, l2, .int a] S h Q := ax_istore_n mt159 dX12_scratch_3 (Nat.le_of_ble_eq_true rfl) rfl
theorem s159_4 : aW d 159 4 [l0, l1, l2, .int a] S h Q = aW d 159 5 [l0, l1, l2, .int a] (.int a :: S) h Q := ax_iload_n mt159 dX12_scratch_4 rfl
theorem s159_5 : aW d 159 5 [.ref o, l1, l2, l3] S h Q = aW d 159 6 [.ref o, l1, l2, l3] (.ref o :: S) h Q := ax_aload_n mt159 dX12_scratch_5 rfl
theorem s159_6 (hT : gT h o = some (14, 54)) : aW d 159 6 L (.ref o :: S) h Q = (isRf (gR h o 13) = true ∧ aW d 159 9 L (gR h o 13 :: S) h Q) := ax_geta mt159 dX12_scratch_6 (by decide) ft_49193 fk_49193 hT
theorem s159_9 : aW d 159 9 [l0, .int a, l2, l3] S h Q = aW d 159 10 [l0, .int a, l2, l3] (.int a :: S) h Q := ax_iload_n mt159 dX12_scratch_9 rfl
theorem s159_10 : aW d 159 10 L (.int a :: .ref o :: S) h Q = (inb a (aI h o) ∧ aW d 159 11 L (.int (gI h o a.toNatClampNeg) :: S) h Q) := ax_iald mt159 dX12_scratch_10
theorem s159_11 : aW d 159 11 L (.int b :: .int a :: S) h Q = (if a < b then aW d 159 14 L S h Q else aW d 159 37 L S h Q) := ax_icmp_ge mt159 dX12_scratch_11 (by decide)
theorem s159_14 : aW d 159 14 [l0, l1, .int a, l3] S h Q = aW d 159 15 [l0, l1, .int a, l3] (.int a :: S) h Q := ax_iload_n mt159 dX12_scratch_14 rfl
theorem s159_15 : aW d 159 15 [.ref o, l1, l2, l3] S h Q = aW d 159 16 [.ref o, l1, l2, l3] (.ref o :: S) h Q := ax_aload_n mt159 dX12_scratch_15 rfl
theorem s159_16 : aW d 159 16 [.ref o, l1, l2, l3] S h Q = aW d 159 17 [.ref o, l1, l2, l3] (.ref o :: S) h Q := ax_aload_n mt159 dX12_scratch_16 rfl
theorem s159_17 (hT : gT h o = some (14, 54)) : aW d 159 17 L (.ref o :: S) h Q = (isRf (gR h o 14) = true ∧ aW d 159 20 L (gR h o 14 :: S) h Q) := ax_geta mt159 dX12_scratch_17 (by decide) ft_49196 fk_49196 hT
theorem s159_20 : aW d 159 20 L S h Q = aW d 159 21 L (.int (nI 4) :: S) h Q := ax_iconst mt159 dX12_scratch_20 ic_4
theorem s159_21 : aW d 159 21 [l0, .int a, l2, l3] S h Q = aW d 159 22 [l0, .int a, l2, l3] (.int a :: S) h Q := ax_iload_n mt159 dX12_scratch_21 rfl
theorem s159_22 : aW d 159 22 L (.int b :: .int a :: S) h Q = aW d 159 23 L (.int (a * b) :: S) h Q := ax_imul mt159 dX12_scratch_22
theorem s159_23 : aW d 159 23 [l0, l1, l2, .int a] S h Q = aW d 159 24 [l0, l1, l2, .int a] (.int a :: S) h Q := ax_iload_n mt159 dX12_scratch_23 rfl
theorem s159_24 : aW d 159 24 L (.int b :: .int a :: S) h Q = aW d 159 25 L (.int (a + b) :: S) h Q := ax_iadd mt159 dX12_scratch_24
theorem s159_25 : aW d 159 25 L (.int a :: .ref o :: S) h Q = (inb a (aI h o) ∧ aW d 159 26 L (.int (gI h o a.toNatClampNeg) :: S) h Q) := ax_iald mt159 dX12_scratch_25
theorem s159_26 (hT : gT h o = some (14, 54)) : aW (d + 1) 159 26 L (.int x0 :: .ref o :: [.int y0]) h Q = aM d 154 (.ref o :: [.int x0]) h (fun v h1 => aW (d + 1) 159 29 L (ab_ps v [.int y0]) h1 Q) := ax_invv mt159 dX12_scratch_26 (by decide) ct_49356 (.inl rfl) mt154 ⟨⟨Nat.le_of_ble_eq_true rfl, Nat.le_of_ble_eq_true rfl, Nat.le_of_ble_eq_true rfl⟩, rfl, rfl, rfl⟩ hT
theorem s159_29 : aW d 159 29 L (.int b :: .int a :: S) h Q = aW d 159 30 L (.int (a + b) :: S) h Q := ax_iadd mt159 dX12_scratch_29
theorem s159_30 : aW d 159 30 [l0, l1, l2, l3] (.int a :: S) h Q = aW d 159 31 [l0, l1, .int a, l3] S h Q := ax_istore_n mt159 dX12_scratch_30 (Nat.le_of_ble_eq_true rfl) rfl
theorem s159_31 : aW d 159 31 [l0, l1, l2, .int a] S h Q = aW d 159 34 [l0, l1, l2, .int (a + nI 1)] S h Q := ax_iinc mt159 dX12_scratch_31 rfl ic_1 rfl
theorem s159_34 : aW d 159 34 L S h Q = aW d 159 4 L S h Q := ax_goto mt159 dX12_scratch_34 (by decide)
theorem s159_37 : aW d 159 37 [.ref o, l1, l2, l3] S h Q = aW d 159 38 [.ref o, l1, l2, l3] (.ref o :: S) h Q := ax_aload_n mt159 dX12_scratch_37 rfl
theorem s159_38 (hT : gT h o = some (14, 54)) : aW d 159 38 L (.ref o :: S) h Q = (isRf (gR h o 10) = true ∧ aW d 159 41 L (gR h o 10 :: S) h Q) := ax_geta mt159 dX12_scratch_38 (by decide) ft_49184 fk_49184 hT
theorem s159_41 : aW d 159 41 [l0, .int a, l2, l3] S h Q = aW d 159 42 [l0, .int a, l2, l3] (.int a :: S) h Q := ax_iload_n mt159 dX12_scratch_41 rfl
theorem s159_42 : aW d 159 42 L (.int a :: .ref o :: S) h Q = (inb a (aI h o) ∧ aW d 159 43 L (.int (gI h o a.toNatClampNeg) :: S) h Q) := ax_iald mt159 dX12_scratch_42
theorem s159_43 : aW d 159 43 [l0, l1, .int a, l3] S h Q = aW d 159 44 [l0, l1, .int a, l3] (.int a :: S) h Q := ax_iload_n mt159 dX12_scratch_43 rfl
theorem s159_44 : aW d 159 44 [.ref o, l1, l2, l3] S h Q = aW d 159 45 [.ref o, l1, l2, l3] (.ref o :: S) h Q := ax_aload_n mt159 dX12_scratch_44 rfl
theorem s159_45 : aW d 159 45 [.ref o, l1, l2, l3] S h Q = aW d 159 46 [.ref o, l1, l2, l3] (.ref o :: S) h Q := ax_aload_n mt159 dX12_scratch_45 rfl
theorem s159_46 (hT : gT h o = some (14, 54)) : aW d 159 46 L (.ref o :: S) h Q = (isRf (gR h o 12) = true ∧ aW d 159 49 L (gR h o 12 :: S) h Q) := ax_geta mt159 dX12_scratch_46 (by decide) ft_49190 fk_49190 hT
theorem s159_49 : aW d 159 49 [l0, .int a, l2, l3] S h Q = aW d 159 50 [l0, .int a, l2, l3] (.int a :: S) h Q := ax_iload_n mt159 dX12_scratch_49 rfl
theorem s159_50 : aW d 159 50 L (.int a :: .ref o :: S) h Q = (inb a (aI h o) ∧ aW d 159 51 L (.int (gI h o a.toNatClampNeg) :: S) h Q) := ax_iald mt159 dX12_scratch_50
theorem s159_51 (hT : gT h o = some (14, 54)) : aW (d + 1) 159 51 L (.int x0 :: .ref o :: [.int y0, .int y1]) h Q = aM d 154 (.ref o :: [.int x0]) h (fun v h1 => aW (d + 1) 159 54 L (ab_ps v [.int y0, .int y1]) h1 Q) := ax_invv mt159 dX12_scratch_51 (by decide) ct_49356 (.inl rfl) mt154 ⟨⟨Nat.le_of_ble_eq_true rfl, Nat.le_of_ble_eq_true rfl, Nat.le_of_ble_eq_true rfl⟩, rfl, rfl, rfl⟩ hT
theorem s159_54 : aW (d + 1) 159 54 L (.int x2 :: .int x1 :: .int x0 :: []) h Q = aM d 156 [.int x0, .int x1, .int x2] h (fun v h1 => aW (d + 1) 159 57 L (ab_ps v []) h1 Q) := ax_invs mt159 dX12_scratch_54 (by decide) ct_49349 (.inl rfl) mt156 ⟨⟨Nat.le_of_ble_eq_true rfl, Nat.le_of_ble_eq_true rfl, Nat.le_of_ble_eq_true rfl⟩, rfl, rfl⟩
theorem s159_57 : aW d 159 57 L [.int a] h Q = Q (some (.int a)) h := ax_reti mt159 dX12_scratch_57 rfl
-- method 160: BufferRoomModel.doesRead(II)Z
theorem dX12_doesRead_0 : decode cX12_doesRead 0 = .ok (.iconst 0, 1) := by decide +kernel
theorem dX12_doesRead_1 : decode cX12_doesRead 1 = .ok (.istore_n 3, 1) := by decide +kernel
theorem dX12_doesRead_2 : decode cX12_doesRead 2 = .ok (.iload_n 3, 1) := by decide +kernel
theorem dX12_doesRead_3 : decode cX12_doesRead 3 = .ok (.aload_n 0, 1) := by decide +kernel
theorem dX12_doesRead_4 : decode cX12_doesRead 4 = .ok (.getfield 41, 3) := by decide +kernel
theorem dX12_doesRead_7 : decode cX12_doesRead 7 = .ok (.iload_n 1, 1) := by decide +kernel
theorem dX12_doesRead_8 : decode cX12_doesRead 8 = .ok (.iaload, 1) := by decide +kernel
theorem dX12_doesRead_9 : decode cX12_doesRead 9 = .ok (.if_icmp .ge 25, 3) := by decide +kernel
theorem dX12_doesRead_12 : decode cX12_doesRead 12 = .ok (.aload_n 0, 1) := by decide +kernel
theorem dX12_doesRead_13 : decode cX12_doesRead 13 = .ok (.getfield 44, 3) := by decide +kernel
theorem dX12_doesRead_16 : decode cX12_doesRead 16 = .ok (.iconst 4, 1) := by decide +kernel
theorem dX12_doesRead_17 : decode cX12_doesRead 17 = .ok (.iload_n 1, 1) := by decide +kernel
theorem dX12_doesRead_18 : decode cX12_doesRead 18 = .ok (.imul, 1) := by decide +kernel
theorem dX12_doesRead_19 : decode cX12_doesRead 19 = .ok (.iload_n 3, 1) := by decide +kernel
theorem dX12_doesRead_20 : decode cX12_doesRead 20 = .ok (.iadd, 1) := by decide +kernel
theorem dX12_doesRead_21 : decode cX12_doesRead 21 = .ok (.iaload, 1) := by decide +kernel
theorem dX12_doesRead_22 : decode cX12_doesRead 22 = .ok (.iload_n 2, 1) := by decide +kernel
theorem dX12_doesRead_23 : decode cX12_doesRead 23 = .ok (.if_icmp .ne 5, 3) := by decide +kernel
theorem dX12_doesRead_26 : decode cX12_doesRead 26 = .ok (.iconst 1, 1) := by decide +kernel
theorem dX12_doesRead_27 : decode cX12_doesRead 27 = .ok (.ireturn, 1) := by decide +kernel
theorem dX12_doesRead_28 : decode cX12_doesRead 28 = .ok (.iinc 3 1, 3) := by decide +kernel
theorem dX12_doesRead_31 : decode cX12_doesRead 31 = .ok (.goto (-29), 3) := by decide +kernel
theorem dX12_doesRead_34 : decode cX12_doesRead 34 = .ok (.iconst 0, 1) := by decide +kernel
theorem dX12_doesRead_35 : decode cX12_doesRead 35 = .ok (.ireturn, 1) := by decide +kernel
theorem s160_0 : aW d 160 0 L S h Q = aW d 160 1 L (.int (nI 0) :: S) h Q := ax_iconst mt160 dX12_doesRead_0 ic_0
theorem s160_1 : aW d 160 1 [l0, l1, l2, l3] (.int a :: S) h Q = aW d 160 2 [l0, l1, l2, .int a] S h Q := ax_istore_n mt160 dX12_doesRead_1 (Nat.le_of_ble_eq_true rfl) rfl
theorem s160_2 : aW d 160 2 [l0, l1, l2, .int a] S h Q = aW d 160 3 [l0, l1, l2, .int a] (.int a :: S) h Q := ax_iload_n mt160 dX12_doesRead_2 rfl
theorem s160_3 : aW d 160 3 [.ref o, l1, l2, l3] S h Q = aW d 160 4 [.ref o, l1, l2, l3] (.ref o :: S) h Q := ax_aload_n mt160 dX12_doesRead_3 rfl
theorem s160_4 (hT : gT h o = some (14, 54)) : aW d 160 4 L (.ref o :: S) h Q = (isRf (gR h o 13) = true ∧ aW d 160 7 L (gR h o 13 :: S) h Q) := ax_geta mt160 dX12_doesRead_4 (by decide) ft_49193 fk_49193 hT
theorem s160_7 : aW d 160 7 [l0, .int a, l2, l3] S h Q = aW d 160 8 [l0, .int a, l2, l3] (.int a :: S) h Q := ax_iload_n mt160 dX12_doesRead_7 rfl
theorem s160_8 : aW d 160 8 L (.int a :: .ref o :: S) h Q = (inb a (aI h o) ∧ aW d 160 9 L (.int (gI h o a.toNatClampNeg) :: S) h Q) := ax_iald mt160 dX12_doesRead_8
theorem s160_9 : aW d 160 9 L (.int b :: .int a :: S) h Q = (if a < b then aW d 160 12 L S h Q else aW d 160 34 L S h Q) := ax_icmp_ge mt160 dX12_doesRead_9 (by decide)
theorem s160_12 : aW d 160 12 [.ref o, l1, l2, l3] S h Q = aW d 160 13 [.ref o, l1, l2, l3] (.ref o :: S) h Q := ax_aload_n mt160 dX12_doesRead_12 rfl
theorem s160_13 (hT : gT h o = some (14, 54)) : aW d 160 13 L (.ref o :: S) h Q = (isRf (gR h o 14) = true ∧ aW d 160 16 L (gR h o 14 :: S) h Q) := ax_geta mt160 dX12_doesRead_13 (by decide) ft_49196 fk_49196 hT
theorem s160_16 : aW d 160 16 L S h Q = aW d 160 17 L (.int (nI 4) :: S) h Q := ax_iconst mt160 dX12_doesRead_16 ic_4
theorem s160_17 : aW d 160 17 [l0, .int a, l2, l3] S h Q = aW d 160 18 [l0, .int a, l2, l3] (.int a :: S) h Q := ax_iload_n mt160 dX12_doesRead_17 rfl
theorem s160_18 : aW d 160 18 L (.int b :: .int a :: S) h Q = aW d 160 19 L (.int (a * b) :: S) h Q := ax_imul mt160 dX12_doesRead_18
theorem s160_19 : aW d 160 19 [l0, l1, l2, .int a] S h Q = aW d 160 20 [l0, l1, l2, .int a] (.int a :: S) h Q := ax_iload_n mt160 dX12_doesRead_19 rfl
theorem s160_20 : aW d 160 20 L (.int b :: .int a :: S) h Q = aW d 160 21 L (.int (a + b) :: S) h Q := ax_iadd mt160 dX12_doesRead_20
theorem s160_21 : aW d 160 21 L (.int a :: .ref o :: S) h Q = (inb a (aI h o) ∧ aW d 160 22 L (.int (gI h o a.toNatClampNeg) :: S) h Q) := ax_iald mt160 dX12_doesRead_21
theorem s160_22 : aW d 160 22 [l0, l1, .int a, l3] S h Q = aW d 160 23 [l0, l1, .int a, l3] (.int a :: S) h Q := ax_iload_n mt160 dX12_doesRead_22 rfl
theorem s160_23 : aW d 160 23 L (.int b :: .int a :: S) h Q = (if a = b then aW d 160 26 L S h Q else aW d 160 28 L S h Q) := ax_icmp_ne mt160 dX12_doesRead_23 (by decide)
theorem s160_26 : aW d 160 26 L S h Q = aW d 160 27 L (.int (nI 1) :: S) h Q := ax_iconst mt160 dX12_doesRead_26 ic_1
theorem s160_27 : aW d 160 27 L [.int a] h Q = (b01 a ∧ Q (some (.int a)) h) := ax_retz mt160 dX12_doesRead_27 rfl
theorem s160_28 : aW d 160 28 [l0, l1, l2, .int a] S h Q = aW d 160 31 [l0, l1, l2, .int (a + nI 1)] S h Q := ax_iinc mt160 dX12_doesRead_28 rfl ic_1 rfl
theorem s160_31 : aW d 160 31 L S h Q = aW d 160 2 L S h Q := ax_goto mt160 dX12_doesRead_31 (by decide)
theorem s160_34 : aW d 160 34 L S h Q = aW d 160 35 L (.int (nI 0) :: S) h Q := ax_iconst mt160 dX12_doesRead_34 ic_0
theorem s160_35 : aW d 160 35 L [.int a] h Q = (b01 a ∧ Q (some (.int a)) h) := ax_retz mt160 dX12_doesRead_35 rfl
-- method 161: BufferRoomModel.writerOf(I)I
theorem dX12_writerOf_0 : decode cX12_writerOf 0 = .ok (.iconst 0, 1) := by decide +kernel
theorem dX12_writerOf_1 : decode cX12_writerOf 1 = .ok (.istore_n 2, 1) := by decide +kernel
theorem dX12_writerOf_2 : decode cX12_writerOf 2 = .ok (.iload_n 2, 1) := by decide +kernel
theorem dX12_writerOf_3 : decode cX12_writerOf 3 = .ok (.aload_n 0, 1) := by decide +kernel
theorem dX12_writerOf_4 : decode cX12_writerOf 4 = .ok (.getfield 165, 3) := by decide +kernel
theorem dX12_writerOf_7 : decode cX12_writerOf 7 = .ok (.if_icmp .ge 21, 3) := by decide +kernel
theorem dX12_writerOf_10 : decode cX12_writerOf 10 = .ok (.aload_n 0, 1) := by decide +kernel
theorem dX12_writerOf_11 : decode cX12_writerOf 11 = .ok (.getfield 38, 3) := by decide +kernel
theorem dX12_writerOf_14 : decode cX12_writerOf 14 = .ok (.iload_n 2, 1) := by decide +kernel
theorem dX12_writerOf_15 : decode cX12_writerOf 15 = .ok (.iaload, 1) := by decide +kernel
theorem dX12_writerOf_16 : decode cX12_writerOf 16 = .ok (.iload_n 1, 1) := by decide +kernel
theorem dX12_writerOf_17 : decode cX12_writerOf 17 = .ok (.if_icmp .ne 5, 3) := by decide +kernel
theorem dX12_writerOf_20 : decode cX12_writerOf 20 = .ok (.iload_n 2, 1) := by decide +kernel
theorem dX12_writerOf_21 : decode cX12_writerOf 21 = .ok (.ireturn, 1) := by decide +kernel
theorem dX12_writerOf_22 : decode cX12_writerOf 22 = .ok (.iinc 2 1, 3) := by decide +kernel
theorem dX12_writerOf_25 : decode cX12_writerOf 25 = .ok (.goto (-23), 3) := by decide +kernel
theorem dX12_writerOf_28 : decode cX12_writerOf 28 = .ok (.iconst (-1), 1) := by decide +kernel
theorem dX12_writerOf_29 : decode cX12_writerOf 29 = .ok (.ireturn, 1) := by decide +kernel
theorem s161_0 : aW d 161 0 L S h Q = aW d 161 1 L (.int (nI 0) :: S) h Q := ax_iconst mt161 dX12_writerOf_0 ic_0
theorem s161_1 : aW d 161 1 [l0, l1, l2] (.int a :: S) h Q = aW d 161 2 [l0, l1, .int a] S h Q := ax_istore_n mt161 dX12_writerOf_1 (Nat.le_of_ble_eq_true rfl) rfl
theorem s161_2 : aW d 161 2 [l0, l1, .int a] S h Q = aW d 161 3 [l0, l1, .int a] (.int a :: S) h Q := ax_iload_n mt161 dX12_writerOf_2 rfl
theorem s161_3 : aW d 161 3 [.ref o, l1, l2] S h Q = aW d 161 4 [.ref o, l1, l2] (.ref o :: S) h Q := ax_aload_n mt161 dX12_writerOf_3 rfl
theorem s161_4 (hT : gT h o = some (14, 54)) : aW d 161 4 L (.ref o :: S) h Q = aW d 161 7 L (.int (gI h o 4) :: S) h Q := ax_geti mt161 dX12_writerOf_4 (by decide) ft_49317 fk_49317 hT
theorem s161_7 : aW d 161 7 L (.int b :: .int a :: S) h Q = (if a < b then aW d 161 10 L S h Q else aW d 161 28 L S h Q) := ax_icmp_ge mt161 dX12_writerOf_7 (by decide)
theorem s161_10 : aW d 161 10 [.ref o, l1, l2] S h Q = aW d 161 11 [.ref o, l1, l2] (.ref o :: S) h Q := ax_aload_n mt161 dX12_writerOf_10 rfl
theorem s161_11 (hT : gT h o = some (14, 54)) : aW d 161 11 L (.ref o :: S) h Q = (isRf (gR h o 12) = true ∧ aW d 161 14 L (gR h o 12 :: S) h Q) := ax_geta mt161 dX12_writerOf_11 (by decide) ft_49190 fk_49190 hT
theorem s161_14 : aW d 161 14 [l0, l1, .int a] S h Q = aW d 161 15 [l0, l1, .int a] (.int a :: S) h Q := ax_iload_n mt161 dX12_writerOf_14 rfl
theorem s161_15 : aW d 161 15 L (.int a :: .ref o :: S) h Q = (inb a (aI h o) ∧ aW d 161 16 L (.int (gI h o a.toNatClampNeg) :: S) h Q) := ax_iald mt161 dX12_writerOf_15
theorem s161_16 : aW d 161 16 [l0, .int a, l2] S h Q = aW d 161 17 [l0, .int a, l2] (.int a :: S) h Q := ax_iload_n mt161 dX12_writerOf_16 rfl
theorem s161_17 : aW d 161 17 L (.int b :: .int a :: S) h Q = (if a = b then aW d 161 20 L S h Q else aW d 161 22 L S h Q) := ax_icmp_ne mt161 dX12_writerOf_17 (by decide)
theorem s161_20 : aW d 161 20 [l0, l1, .int a] S h Q = aW d 161 21 [l0, l1, .int a] (.int a :: S) h Q := ax_iload_n mt161 dX12_writerOf_20 rfl
theorem s161_21 : aW d 161 21 L [.int a] h Q = Q (some (.int a)) h := ax_reti mt161 dX12_writerOf_21 rfl
theorem s161_22 : aW d 161 22 [l0, l1, .int a] S h Q = aW d 161 25 [l0, l1, .int (a + nI 1)] S h Q := ax_iinc mt161 dX12_writerOf_22 rfl ic_1 rfl
theorem s161_25 : aW d 161 25 L S h Q = aW d 161 2 L S h Q := ax_goto mt161 dX12_writerOf_25 (by decide)
theorem s161_28 : aW d 161 28 L S h Q = aW d 161 29 L (.int ((-1)) :: S) h Q := ax_iconst mt161 dX12_writerOf_28 ic_m1
theorem s161_29 : aW d 161 29 L [.int a] h Q = Q (some (.int a)) h := ax_reti mt161 dX12_writerOf_29 rfl
-- method 162: BufferRoomModel.isReady(II)Z
theorem dX12_isReady_0 : decode cX12_isReady 0 = .ok (.iload_n 2, 1) := by decide +kernel
theorem dX12_isReady_1 : decode cX12_isReady 1 = .ok (.iload_n 1, 1) := by decide +kernel
theorem dX12_isReady_2 : decode cX12_isReady 2 = .ok (.ishr, 1) := by decide +kernel
theorem dX12_isReady_3 : decode cX12_isReady 3 = .ok (.iconst 1, 1) := by decide +kernel
theorem dX12_isReady_4 : decode cX12_isReady 4 = .ok (.iand, 1) := by decide +kernel
theorem dX12_isReady_5 : decode cX12_isReady 5 = .ok (.iconst 1, 1) := by decide +kernel
theorem dX12_isReady_6 : decode cX12_isReady 6 = .ok (.if_icmp .ne 5, 3) := by decide +kernel
theorem dX12_isReady_9 : decode cX12_isReady 9 = .ok (.iconst 0, 1) := by decide +kernel
theorem dX12_isReady_10 : decode cX12_isReady 10 = .ok (.ireturn, 1) := by decide +kernel
theorem dX12_isReady_11 : decode cX12_isReady 11 = .ok (.iconst 0, 1) := by decide +kernel
theorem dX12_isReady_12 : decode cX12_isReady 12 = .ok (.istore_n 3, 1) := by decide +kernel
theorem dX12_isReady_13 : decode cX12_isReady 13 = .ok (.iload_n 3, 1) := by decide +kernel
theorem dX12_isReady_14 : decode cX12_isReady 14 = .ok (.aload_n 0, 1) := by decide +kernel
theorem dX12_isReady_15 : decode cX12_isReady 15 = .ok (.getfield 41, 3) := by decide +kernel
theorem dX12_isReady_18 : decode cX12_isReady 18 = .ok (.iload_n 1, 1) := by decide +kernel
theorem dX12_isReady_19 : decode cX12_isReady 19 = .ok (.iaload, 1) := by decide +kernel
theorem dX12_isReady_20 : decode cX12_isReady 20 = .ok (.if_icmp .ge 51, 3) := by decide +kernel
theorem dX12_isReady_23 : decode cX12_isReady 23 = .ok (.aload_n 0, 1) := by decide +kernel
theorem dX12_isReady_24 : decode cX12_isReady 24 = .ok (.aload_n 0, 1) := by decide +kernel
theorem dX12_isReady_25 : decode cX12_isReady 25 = .ok (.getfield 44, 3) := by decide +kernel
theorem dX12_isReady_28 : decode cX12_isReady 28 = .ok (.iconst 4, 1) := by decide +kernel
theorem dX12_isReady_29 : decode cX12_isReady 29 = .ok (.iload_n 1, 1) := by decide +kernel
theorem dX12_isReady_30 : decode cX12_isReady 30 = .ok (.imul, 1) := by decide +kernel
theorem dX12_isReady_31 : decode cX12_isReady 31 = .ok (.iload_n 3, 1) := by decide +kernel
theorem dX12_isReady_32 : decode cX12_isReady 32 = .ok (.iadd, 1) := by decide +kernel
theorem dX12_isReady_33 : decode cX12_isReady 33 = .ok (.iaload, 1) := by decide +kernel
theorem dX12_isReady_34 : decode cX12_isReady 34 = .ok (.invokevirtual 208, 3) := by decide +kernel
theorem dX12_isReady_37 : decode cX12_isReady 37 = .ok (.istore 4, 2) := by decide +kernel
theorem dX12_isReady_39 : decode cX12_isReady 39 = .ok (.iload 4, 2) := by decide +kernel
theorem dX12_isReady_41 : decode cX12_isReady 41 = .ok (.iconst (-1), 1) := by decide +kernel
theorem dX12_isReady_42 : decode cX12_isReady 42 = .ok (.if_icmp .eq 23, 3) := by decide +kernel
theorem dX12_isReady_45 : decode cX12_isReady 45 = .ok (.iload_n 2, 1) := by decide +kernel
theorem dX12_isReady_46 : decode cX12_isReady 46 = .ok (.iload 4, 2) := by decide +kernel
theorem dX12_isReady_48 : decode cX12_isReady 48 = .ok (.ifCond .ge 7, 3) := by decide +kernel
theorem dX12_isReady_51 : decode cX12_isReady 51 = .ok (.iconst 0, 1) := by decide +kernel
theorem dX12_isReady_52 : decode cX12_isReady 52 = .ok (.goto 5, 3) := by decide +kernel
theorem dX12_isReady_55 : decode cX12_isReady 55 = .ok (.iload 4, 2) := by decide +kernel
theorem dX12_isReady_57 : decode cX12_isReady 57 = .ok (.ishr, 1) := by decide +kernel
theorem dX12_isReady_58 : decode cX12_isReady 58 = .ok (.iconst 1, 1) := by decide +kernel
theorem dX12_isReady_59 : decode cX12_isReady 59 = .ok (.iand, 1) := by decide +kernel
theorem dX12_isReady_60 : decode cX12_isReady 60 = .ok (.ifCond .ne 5, 3) := by decide +kernel
theorem dX12_isReady_63 : decode cX12_isReady 63 = .ok (.iconst 0, 1) := by decide +kernel
theorem dX12_isReady_64 : decode cX12_isReady 64 = .ok (.ireturn, 1) := by decide +kernel
theorem dX12_isReady_65 : decode cX12_isReady 65 = .ok (.iinc 3 1, 3) := by decide +kernel
theorem dX12_isReady_68 : decode cX12_isReady 68 = .ok (.goto (-55), 3) := by decide +kernel
theorem dX12_isReady_71 : decode cX12_isReady 71 = .ok (.iconst 1, 1) := by decide +kernel
theorem dX12_isReady_72 : decode cX12_isReady 72 = .ok (.ireturn, 1) := by decide +kernel
theorem s162_0 : aW d 162 0 [l0, l1, .int a, l3, l4] S h Q = aW d 162 1 [l0, l1, .int a, l3, l4] (.int a :: S) h Q := ax_iload_n mt162 dX12_isReady_0 rfl
theorem s162_1 : aW d 162 1 [l0, .int a, l2, l3, l4] S h Q = aW d 162 2 [l0, .int a, l2, l3, l4] (.int a :: S) h Q := ax_iload_n mt162 dX12_isReady_1 rfl
theorem s162_2 : aW d 162 2 L (.int b :: .int a :: S) h Q = aW d 162 3 L (.int (a >>> (b &&& 31)) :: S) h Q := ax_ishr mt162 dX12_isReady_2
theorem s162_3 : aW d 162 3 L S h Q = aW d 162 4 L (.int (nI 1) :: S) h Q := ax_iconst mt162 dX12_isReady_3 ic_1
theorem s162_4 : aW d 162 4 L (.int b :: .int a :: S) h Q = aW d 162 5 L (.int (a &&& b) :: S) h Q := ax_iand mt162 dX12_isReady_4
theorem s162_5 : aW d 162 5 L S h Q = aW d 162 6 L (.int (nI 1) :: S) h Q := ax_iconst mt162 dX12_isReady_5 ic_1
theorem s162_6 : aW d 162 6 L (.int b :: .int a :: S) h Q = (if a = b then aW d 162 9 L S h Q else aW d 162 11 L S h Q) := ax_icmp_ne mt162 dX12_isReady_6 (by decide)
theorem s162_9 : aW d 162 9 L S h Q = aW d 162 10 L (.int (nI 0) :: S) h Q := ax_iconst mt162 dX12_isReady_9 ic_0
theorem s162_10 : aW d 162 10 L [.int a] h Q = (b01 a ∧ Q (some (.int a)) h) := ax_retz mt162 dX12_isReady_10 rfl
theorem s162_11 : aW d 162 11 L S h Q = aW d 162 12 L (.int (nI 0) :: S) h Q := ax_iconst mt162 dX12_isReady_11 ic_0
theorem s162_12 : aW d 162 12 [l0, l1, l2, l3, l4] (.int a :: S) h Q = aW d 162 13 [l0, l1, l2, .int a, l4] S h Q := ax_istore_n mt162 dX12_isReady_12 (Nat.le_of_ble_eq_true rfl) rfl
theorem s162_13 : aW d 162 13 [l0, l1, l2, .int a, l4] S h Q = aW d 162 14 [l0, l1, l2, .int a, l4] (.int a :: S) h Q := ax_iload_n mt162 dX12_isReady_13 rfl
theorem s162_14 : aW d 162 14 [.ref o, l1, l2, l3, l4] S h Q = aW d 162 15 [.ref o, l1, l2, l3, l4] (.ref o :: S) h Q := ax_aload_n mt162 dX12_isReady_14 rfl
theorem s162_15 (hT : gT h o = some (14, 54)) : aW d 162 15 L (.ref o :: S) h Q = (isRf (gR h o 13) = true ∧ aW d 162 18 L (gR h o 13 :: S) h Q) := ax_geta mt162 dX12_isReady_15 (by decide) ft_49193 fk_49193 hT
theorem s162_18 : aW d 162 18 [l0, .int a, l2, l3, l4] S h Q = aW d 162 19 [l0, .int a, l2, l3, l4] (.int a :: S) h Q := ax_iload_n mt162 dX12_isReady_18 rfl
theorem s162_19 : aW d 162 19 L (.int a :: .ref o :: S) h Q = (inb a (aI h o) ∧ aW d 162 20 L (.int (gI h o a.toNatClampNeg) :: S) h Q) := ax_iald mt162 dX12_isReady_19
theorem s162_20 : aW d 162 20 L (.int b :: .int a :: S) h Q = (if a < b then aW d 162 23 L S h Q else aW d 162 71 L S h Q) := ax_icmp_ge mt162 dX12_isReady_20 (by decide)
theorem s162_23 : aW d 162 23 [.ref o, l1, l2, l3, l4] S h Q = aW d 162 24 [.ref o, l1, l2, l3, l4] (.ref o :: S) h Q := ax_aload_n mt162 dX12_isReady_23 rfl
theorem s162_24 : aW d 162 24 [.ref o, l1, l2, l3, l4] S h Q = aW d 162 25 [.ref o, l1, l2, l3, l4] (.ref o :: S) h Q := ax_aload_n mt162 dX12_isReady_24 rfl
theorem s162_25 (hT : gT h o = some (14, 54)) : aW d 162 25 L (.ref o :: S) h Q = (isRf (gR h o 14) = true ∧ aW d 162 28 L (gR h o 14 :: S) h Q) := ax_geta mt162 dX12_isReady_25 (by decide) ft_49196 fk_49196 hT
theorem s162_28 : aW d 162 28 L S h Q = aW d 162 29 L (.int (nI 4) :: S) h Q := ax_iconst mt162 dX12_isReady_28 ic_4
theorem s162_29 : aW d 162 29 [l0, .int a, l2, l3, l4] S h Q = aW d 162 30 [l0, .int a, l2, l3, l4] (.int a :: S) h Q := ax_iload_n mt162 dX12_isReady_29 rfl
theorem s162_30 : aW d 162 30 L (.int b :: .int a :: S) h Q = aW d 162 31 L (.int (a * b) :: S) h Q := ax_imul mt162 dX12_isReady_30
theorem s162_31 : aW d 162 31 [l0, l1, l2, .int a, l4] S h Q = aW d 162 32 [l0, l1, l2, .int a, l4] (.int a :: S) h Q := ax_iload_n mt162 dX12_isReady_31 rfl
theorem s162_32 : aW d 162 32 L (.int b :: .int a :: S) h Q = aW d 162 33 L (.int (a + b) :: S) h Q := ax_iadd mt162 dX12_isReady_32
theorem s162_33 : aW d 162 33 L (.int a :: .ref o :: S) h Q = (inb a (aI h o) ∧ aW d 162 34 L (.int (gI h o a.toNatClampNeg) :: S) h Q) := ax_iald mt162 dX12_isReady_33
theorem s162_34 (hT : gT h o = some (14, 54)) : aW (d + 1) 162 34 L (.int x0 :: .ref o :: []) h Q = aM d 161 (.ref o :: [.int x0]) h (fun v h1 => aW (d + 1) 162 37 L (ab_ps v []) h1 Q) := ax_invv mt162 dX12_isReady_34 (by decide) ct_49360 (.inl rfl) mt161 ⟨⟨Nat.le_of_ble_eq_true rfl, Nat.le_of_ble_eq_true rfl, Nat.le_of_ble_eq_true rfl⟩, rfl, rfl, rfl⟩ hT
theorem s162_37 : aW d 162 37 [l0, l1, l2, l3, l4] (.int a :: S) h Q = aW d 162 39 [l0, l1, l2, l3, .int a] S h Q := ax_istore mt162 dX12_isReady_37 (Nat.le_of_ble_eq_true rfl) rfl
theorem s162_39 : aW d 162 39 [l0, l1, l2, l3, .int a] S h Q = aW d 162 41 [l0, l1, l2, l3, .int a] (.int a :: S) h Q := ax_iload mt162 dX12_isReady_39 rfl
theorem s162_41 : aW d 162 41 L S h Q = aW d 162 42 L (.int ((-1)) :: S) h Q := ax_iconst mt162 dX12_isReady_41 ic_m1
theorem s162_42 : aW d 162 42 L (.int b :: .int a :: S) h Q = (if a = b then aW d 162 65 L S h Q else aW d 162 45 L S h Q) := ax_icmp_eq mt162 dX12_isReady_42 (by decide)
theorem s162_45 : aW d 162 45 [l0, l1, .int a, l3, l4] S h Q = aW d 162 46 [l0, l1, .int a, l3, l4] (.int a :: S) h Q := ax_iload_n mt162 dX12_isReady_45 rfl
theorem s162_46 : aW d 162 46 [l0, l1, l2, l3, .int a] S h Q = aW d 162 48 [l0, l1, l2, l3, .int a] (.int a :: S) h Q := ax_iload mt162 dX12_isReady_46 rfl
theorem s162_48 : aW d 162 48 L (.int a :: S) h Q = (if a < 0 then aW d 162 51 L S h Q else aW d 162 55 L S h Q) := ax_if_ge mt162 dX12_isReady_48 (by decide)
theorem s162_51 : aW d 162 51 L S h Q = aW d 162 52 L (.int (nI 0) :: S) h Q := ax_iconst mt162 dX12_isReady_51 ic_0
theorem s162_52 : aW d 162 52 L S h Q = aW d 162 57 L S h Q := ax_goto mt162 dX12_isReady_52 (by decide)
theorem s162_57 : aW d 162 57 L (.int b :: .int a :: S) h Q = aW d 162 58 L (.int (a >>> (b &&& 31)) :: S) h Q := ax_ishr mt162 dX12_isReady_57
theorem s162_58 : aW d 162 58 L S h Q = aW d 162 59 L (.int (nI 1) :: S) h Q := ax_iconst mt162 dX12_isReady_58 ic_1
theorem s162_59 : aW d 162 59 L (.int b :: .int a :: S) h Q = aW d 162 60 L (.int (a &&& b) :: S) h Q := ax_iand mt162 dX12_isReady_59
theorem s162_60 : aW d 162 60 L (.int a :: S) h Q = (if a = 0 then aW d 162 63 L S h Q else aW d 162 65 L S h Q) := ax_if_ne mt162 dX12_isReady_60 (by decide)
theorem s162_63 : aW d 162 63 L S h Q = aW d 162 64 L (.int (nI 0) :: S) h Q := ax_iconst mt162 dX12_isReady_63 ic_0
theorem s162_64 : aW d 162 64 L [.int a] h Q = (b01 a ∧ Q (some (.int a)) h) := ax_retz mt162 dX12_isReady_64 rfl
theorem s162_55 : aW d 162 55 [l0, l1, l2, l3, .int a] S h Q = aW d 162 57 [l0, l1, l2, l3, .int a] (.int a :: S) h Q := ax_iload mt162 dX12_isReady_55 rfl
theorem s162_65 : aW d 162 65 [l0, l1, l2, .int a, l4] S h Q = aW d 162 68 [l0, l1, l2, .int (a + nI 1), l4] S h Q := ax_iinc mt162 dX12_isReady_65 rfl ic_1 rfl
theorem s162_68 : aW d 162 68 L S h Q = aW d 162 13 L S h Q := ax_goto mt162 dX12_isReady_68 (by decide)
theorem s162_71 : aW d 162 71 L S h Q = aW d 162 72 L (.int (nI 1) :: S) h Q := ax_iconst mt162 dX12_isReady_71 ic_1
theorem s162_72 : aW d 162 72 L [.int a] h Q = (b01 a ∧ Q (some (.int a)) h) := ax_retz mt162 dX12_isReady_72 rfl
-- method 163: BufferRoomModel.orders()Z
theorem dX12_orders_0 : decode cX12_orders 0 = .ok (.iconst 0, 1) := by decide +kernel
theorem dX12_orders_1 : decode cX12_orders 1 = .ok (.istore_n 1, 1) := by decide +kernel
theorem dX12_orders_2 : decode cX12_orders 2 = .ok (.iconst 0, 1) := by decide +kernel
theorem dX12_orders_3 : decode cX12_orders 3 = .ok (.istore_n 2, 1) := by decide +kernel
theorem dX12_orders_4 : decode cX12_orders 4 = .ok (.iload_n 2, 1) := by decide +kernel
theorem dX12_orders_5 : decode cX12_orders 5 = .ok (.aload_n 0, 1) := by decide +kernel
theorem dX12_orders_6 : decode cX12_orders 6 = .ok (.getfield 165, 3) := by decide +kernel
theorem dX12_orders_9 : decode cX12_orders 9 = .ok (.if_icmp .ge 80, 3) := by decide +kernel
theorem dX12_orders_12 : decode cX12_orders 12 = .ok (.aload_n 0, 1) := by decide +kernel
theorem dX12_orders_13 : decode cX12_orders 13 = .ok (.getfield 180, 3) := by decide +kernel
theorem dX12_orders_16 : decode cX12_orders 16 = .ok (.ifCond .eq 12, 3) := by decide +kernel
theorem dX12_orders_19 : decode cX12_orders 19 = .ok (.aload_n 0, 1) := by decide +kernel
theorem dX12_orders_20 : decode cX12_orders 20 = .ok (.getfield 77, 3) := by decide +kernel
theorem dX12_orders_23 : decode cX12_orders 23 = .ok (.iload_n 2, 1) := by decide +kernel
theorem dX12_orders_24 : decode cX12_orders 24 = .ok (.iaload, 1) := by decide +kernel
theorem dX12_orders_25 : decode cX12_orders 25 = .ok (.goto 4, 3) := by decide +kernel
theorem dX12_orders_28 : decode cX12_orders 28 = .ok (.iconst 0, 1) := by decide +kernel
theorem dX12_orders_29 : decode cX12_orders 29 = .ok (.istore_n 3, 1) := by decide +kernel
theorem dX12_orders_30 : decode cX12_orders 30 = .ok (.aload_n 0, 1) := by decide +kernel
theorem dX12_orders_31 : decode cX12_orders 31 = .ok (.getfield 180, 3) := by decide +kernel
theorem dX12_orders_34 : decode cX12_orders 34 = .ok (.ifCond .ne 26, 3) := by decide +kernel
theorem dX12_orders_37 : decode cX12_orders 37 = .ok (.iload_n 3, 1) := by decide +kernel
theorem dX12_orders_38 : decode cX12_orders 38 = .ok (.aload_n 0, 1) := by decide +kernel
theorem dX12_orders_39 : decode cX12_orders 39 = .ok (.getfield 165, 3) := by decide +kernel
theorem dX12_orders_42 : decode cX12_orders 42 = .ok (.if_icmp .ge 18, 3) := by decide +kernel
theorem dX12_orders_45 : decode cX12_orders 45 = .ok (.aload_n 0, 1) := by decide +kernel
theorem dX12_orders_46 : decode cX12_orders 46 = .ok (.iload_n 3, 1) := by decide +kernel
theorem dX12_orders_47 : decode cX12_orders 47 = .ok (.iload_n 1, 1) := by decide +kernel
theorem dX12_orders_48 : decode cX12_orders 48 = .ok (.invokevirtual 211, 3) := by decide +kernel
theorem dX12_orders_51 : decode cX12_orders 51 = .ok (.ifCond .ne 9, 3) := by decide +kernel
theorem dX12_orders_54 : decode cX12_orders 54 = .ok (.iinc 3 1, 3) := by decide +kernel
theorem dX12_orders_57 : decode cX12_orders 57 = .ok (.goto (-27), 3) := by decide +kernel
theorem dX12_orders_60 : decode cX12_orders 60 = .ok (.iload_n 3, 1) := by decide +kernel
theorem dX12_orders_61 : decode cX12_orders 61 = .ok (.aload_n 0, 1) := by decide +kernel
theorem dX12_orders_62 : decode cX12_orders 62 = .ok (.getfield 165, 3) := by decide +kernel
theorem dX12_orders_65 : decode cX12_orders 65 = .ok (.if_icmp .ne 5, 3) := by decide +kernel
theorem dX12_orders_68 : decode cX12_orders 68 = .ok (.iconst 0, 1) := by decide +kernel
theorem dX12_orders_69 : decode cX12_orders 69 = .ok (.ireturn, 1) := by decide +kernel
theorem dX12_orders_70 : decode cX12_orders 70 = .ok (.aload_n 0, 1) := by decide +kernel
theorem dX12_orders_71 : decode cX12_orders 71 = .ok (.getfield 104, 3) := by decide +kernel
theorem dX12_orders_74 : decode cX12_orders 74 = .ok (.iload_n 2, 1) := by decide +kernel
theorem dX12_orders_75 : decode cX12_orders 75 = .ok (.iload_n 3, 1) := by decide +kernel
theorem dX12_orders_76 : decode cX12_orders 76 = .ok (.iastore, 1) := by decide +kernel
theorem dX12_orders_77 : decode cX12_orders 77 = .ok (.iload_n 1, 1) := by decide +kernel
theorem dX12_orders_78 : decode cX12_orders 78 = .ok (.iconst 1, 1) := by decide +kernel
theorem dX12_orders_79 : decode cX12_orders 79 = .ok (.iload_n 3, 1) := by decide +kernel
theorem dX12_orders_80 : decode cX12_orders 80 = .ok (.ishl, 1) := by decide +kernel
theorem dX12_orders_81 : decode cX12_orders 81 = .ok (.ior, 1) := by decide +kernel
theorem dX12_orders_82 : decode cX12_orders 82 = .ok (.istore_n 1, 1) := by decide +kernel
theorem dX12_orders_83 : decode cX12_orders 83 = .ok (.iinc 2 1, 3) := by decide +kernel
theorem dX12_orders_86 : decode cX12_orders 86 = .ok (.goto (-82), 3) := by decide +kernel
theorem dX12_orders_89 : decode cX12_orders 89 = .ok (.iconst 0, 1) := by decide +kernel
theorem dX12_orders_90 : decode cX12_orders 90 = .ok (.istore_n 2, 1) := by decide +kernel
theorem dX12_orders_91 : decode cX12_orders 91 = .ok (.iload_n 2, 1) := by decide +kernel
theorem dX12_orders_92 : decode cX12_orders 92 = .ok (.bipush 12, 2) := by decide +kernel
theorem dX12_orders_94 : decode cX12_orders 94 = .ok (.if_icmp .ge 14, 3) := by decide +kernel
theorem dX12_orders_97 : decode cX12_orders 97 = .ok (.aload_n 0, 1) := by decide +kernel
theorem dX12_orders_98 : decode cX12_orders 98 = .ok (.iload_n 2, 1) := by decide +kernel
theorem dX12_orders_99 : decode cX12_orders 99 = .ok (.invokevirtual 215, 3) := by decide +kernel
theorem dX12_orders_102 : decode cX12_orders 102 = .ok (.iinc 2 1, 3) := by decide +kernel
theorem dX12_orders_105 : decode cX12_orders 105 = .ok (.goto (-14), 3) := by decide +kernel
theorem dX12_orders_108 : decode cX12_orders 108 = .ok (.iconst 1, 1) := by decide +kernel
theorem dX12_orders_109 : decode cX12_orders 109 = .ok (.ireturn, 1) := by decide +kernel
theorem s163_0 : aW d 163 0 L S h Q = aW d 163 1 L (.int (nI 0) :: S) h Q := ax_iconst mt163 dX12_orders_0 ic_0
theorem s163_1 : aW d 163 1 [l0, l1, l2, l3] (.int a :: S) h Q = aW d 163 2 [l0, .int a, l2, l3] S h Q := ax_istore_n mt163 dX12_orders_1 (Nat.le_of_ble_eq_true rfl) rfl
theorem s163_2 : aW d 163 2 L S h Q = aW d 163 3 L (.int (nI 0) :: S) h Q := ax_iconst mt163 dX12_orders_2 ic_0
theorem s163_3 : aW d 163 3 [l0, l1, l2, l3] (.int a :: S) h Q = aW d 163 4 [l0, l1, .int a, l3] S h Q := ax_istore_n mt163 dX12_orders_3 (Nat.le_of_ble_eq_true rfl) rfl
theorem s163_4 : aW d 163 4 [l0, l1, .int a, l3] S h Q = aW d 163 5 [l0, l1, .int a, l3] (.int a :: S) h Q := ax_iload_n mt163 dX12_orders_4 rfl
theorem s163_5 : aW d 163 5 [.ref o, l1, l2, l3] S h Q = aW d 163 6 [.ref o, l1, l2, l3] (.ref o :: S) h Q := ax_aload_n mt163 dX12_orders_5 rfl
theorem s163_6 (hT : gT h o = some (14, 54)) : aW d 163 6 L (.ref o :: S) h Q = aW d 163 9 L (.int (gI h o 4) :: S) h Q := ax_geti mt163 dX12_orders_6 (by decide) ft_49317 fk_49317 hT
theorem s163_9 : aW d 163 9 L (.int b :: .int a :: S) h Q = (if a < b then aW d 163 12 L S h Q else aW d 163 89 L S h Q) := ax_icmp_ge mt163 dX12_orders_9 (by decide)
theorem s163_12 : aW d 163 12 [.ref o, l1, l2, l3] S h Q = aW d 163 13 [.ref o, l1, l2, l3] (.ref o :: S) h Q := ax_aload_n mt163 dX12_orders_12 rfl
theorem s163_13 (hT : gT h o = some (14, 54)) : aW d 163 13 L (.ref o :: S) h Q = aW d 163 16 L (.int (gI h o 26) :: S) h Q := ax_geti mt163 dX12_orders_13 (by decide) ft_49332 fk_49332 hT
theorem s163_16 : aW d 163 16 L (.int a :: S) h Q = (if a = 0 then aW d 163 28 L S h Q else aW d 163 19 L S h Q) := ax_if_eq mt163 dX12_orders_16 (by decide)
theorem s163_19 : aW d 163 19 [.ref o, l1, l2, l3] S h Q = aW d 163 20 [.ref o, l1, l2, l3] (.ref o :: S) h Q := ax_aload_n mt163 dX12_orders_19 rfl
theorem s163_20 (hT : gT h o = some (14, 54)) : aW d 163 20 L (.ref o :: S) h Q = (isRf (gR h o 27) = true ∧ aW d 163 23 L (gR h o 27 :: S) h Q) := ax_geta mt163 dX12_orders_20 (by decide) ft_49229 fk_49229 hT
theorem s163_23 : aW d 163 23 [l0, l1, .int a, l3] S h Q = aW d 163 24 [l0, l1, .int a, l3] (.int a :: S) h Q := ax_iload_n mt163 dX12_orders_23 rfl
theorem s163_24 : aW d 163 24 L (.int a :: .ref o :: S) h Q = (inb a (aI h o) ∧ aW d 163 25 L (.int (gI h o a.toNatClampNeg) :: S) h Q) := ax_iald mt163 dX12_orders_24
theorem s163_25 : aW d 163 25 L S h Q = aW d 163 29 L S h Q := ax_goto mt163 dX12_orders_25 (by decide)
theorem s163_29 : aW d 163 29 [l0, l1, l2, l3] (.int a :: S) h Q = aW d 163 30 [l0, l1, l2, .int a] S h Q := ax_istore_n mt163 dX12_orders_29 (Nat.le_of_ble_eq_true rfl) rfl
theorem s163_30 : aW d 163 30 [.ref o, l1, l2, l3] S h Q = aW d 163 31 [.ref o, l1, l2, l3] (.ref o :: S) h Q := ax_aload_n mt163 dX12_orders_30 rfl
theorem s163_31 (hT : gT h o = some (14, 54)) : aW d 163 31 L (.ref o :: S) h Q = aW d 163 34 L (.int (gI h o 26) :: S) h Q := ax_geti mt163 dX12_orders_31 (by decide) ft_49332 fk_49332 hT
theorem s163_34 : aW d 163 34 L (.int a :: S) h Q = (if a = 0 then aW d 163 37 L S h Q else aW d 163 60 L S h Q) := ax_if_ne mt163 dX12_orders_34 (by decide)
theorem s163_37 : aW d 163 37 [l0, l1, l2, .int a] S h Q = aW d 163 38 [l0, l1, l2, .int a] (.int a :: S) h Q := ax_iload_n mt163 dX12_orders_37 rfl
theorem s163_38 : aW d 163 38 [.ref o, l1, l2, l3] S h Q = aW d 163 39 [.ref o, l1, l2, l3] (.ref o :: S) h Q := ax_aload_n mt163 dX12_orders_38 rfl
theorem s163_39 (hT : gT h o = some (14, 54)) : aW d 163 39 L (.ref o :: S) h Q = aW d 163 42 L (.int (gI h o 4) :: S) h Q := ax_geti mt163 dX12_orders_39 (by decide) ft_49317 fk_49317 hT
theorem s163_42 : aW d 163 42 L (.int b :: .int a :: S) h Q = (if a < b then aW d 163 45 L S h Q else aW d 163 60 L S h Q) := ax_icmp_ge mt163 dX12_orders_42 (by decide)
theorem s163_45 : aW d 163 45 [.ref o, l1, l2, l3] S h Q = aW d 163 46 [.ref o, l1, l2, l3] (.ref o :: S) h Q := ax_aload_n mt163 dX12_orders_45 rfl
theorem s163_46 : aW d 163 46 [l0, l1, l2, .int a] S h Q = aW d 163 47 [l0, l1, l2, .int a] (.int a :: S) h Q := ax_iload_n mt163 dX12_orders_46 rfl
theorem s163_47 : aW d 163 47 [l0, .int a, l2, l3] S h Q = aW d 163 48 [l0, .int a, l2, l3] (.int a :: S) h Q := ax_iload_n mt163 dX12_orders_47 rfl
theorem s163_48 (hT : gT h o = some (14, 54)) : aW (d + 1) 163 48 L (.int x1 :: .int x0 :: .ref o :: []) h Q = aM d 162 (.ref o :: [.int x0, .int x1]) h (fun v h1 => aW (d + 1) 163 51 L (ab_ps v []) h1 Q) := ax_invv mt163 dX12_orders_48 (by decide) ct_49363 (.inl rfl) mt162 ⟨⟨Nat.le_of_ble_eq_true rfl, Nat.le_of_ble_eq_true rfl, Nat.le_of_ble_eq_true rfl⟩, rfl, rfl, rfl⟩ hT
theorem s163_51 : aW d 163 51 L (.int a :: S) h Q = (if a = 0 then aW d 163 54 L S h Q else aW d 163 60 L S h Q) := ax_if_ne mt163 dX12_orders_51 (by decide)
theorem s163_54 : aW d 163 54 [l0, l1, l2, .int a] S h Q = aW d 163 57 [l0, l1, l2, .int (a + nI 1)] S h Q := ax_iinc mt163 dX12_orders_54 rfl ic_1 rfl
theorem s163_57 : aW d 163 57 L S h Q = aW d 163 30 L S h Q := ax_goto mt163 dX12_orders_57 (by decide)
theorem s163_60 : aW d 163 60 [l0, l1, l2, .int a] S h Q = aW d 163 61 [l0, l1, l2, .int a] (.int a :: S) h Q := ax_iload_n mt163 dX12_orders_60 rfl
theorem s163_61 : aW d 163 61 [.ref o, l1, l2, l3] S h Q = aW d 163 62 [.ref o, l1, l2, l3] (.ref o :: S) h Q := ax_aload_n mt163 dX12_orders_61 rfl
theorem s163_62 (hT : gT h o = some (14, 54)) : aW d 163 62 L (.ref o :: S) h Q = aW d 163 65 L (.int (gI h o 4) :: S) h Q := ax_geti mt163 dX12_orders_62 (by decide) ft_49317 fk_49317 hT
theorem s163_65 : aW d 163 65 L (.int b :: .int a :: S) h Q = (if a = b then aW d 163 68 L S h Q else aW d 163 70 L S h Q) := ax_icmp_ne mt163 dX12_orders_65 (by decide)
theorem s163_68 : aW d 163 68 L S h Q = aW d 163 69 L (.int (nI 0) :: S) h Q := ax_iconst mt163 dX12_orders_68 ic_0
theorem s163_69 : aW d 163 69 L [.int a] h Q = (b01 a ∧ Q (some (.int a)) h) := ax_retz mt163 dX12_orders_69 rfl
theorem s163_70 : aW d 163 70 [.ref o, l1, l2, l3] S h Q = aW d 163 71 [.ref o, l1, l2, l3] (.ref o :: S) h Q := ax_aload_n mt163 dX12_orders_70 rfl
theorem s163_71 (hT : gT h o = some (14, 54)) : aW d 163 71 L (.ref o :: S) h Q = (isRf (gR h o 46) = true ∧ aW d 163 74 L (gR h o 46 :: S) h Q) := ax_geta mt163 dX12_orders_71 (by decide) ft_49256 fk_49256 hT
theorem s163_74 : aW d 163 74 [l0, l1, .int a, l3] S h Q = aW d 163 75 [l0, l1, .int a, l3] (.int a :: S) h Q := ax_iload_n mt163 dX12_orders_74 rfl
theorem s163_75 : aW d 163 75 [l0, l1, l2, .int a] S h Q = aW d 163 76 [l0, l1, l2, .int a] (.int a :: S) h Q := ax_iload_n mt163 dX12_orders_75 rfl
theorem s163_76 : aW d 163 76 L (.int b :: .int a :: .ref o :: S) h Q = (inb a (aJ h o) ∧ aW d 163 77 L S (pI h o a.toNatClampNeg b) Q) := ax_iast mt163 dX12_orders_76
theorem s163_77 : aW d 163 77 [l0, .int a, l2, l3] S h Q = aW d 163 78 [l0, .int a, l2, l3] (.int a :: S) h Q := ax_iload_n mt163 dX12_orders_77 rfl
theorem s163_78 : aW d 163 78 L S h Q = aW d 163 79 L (.int (nI 1) :: S) h Q := ax_iconst mt163 dX12_orders_78 ic_1
theorem s163_79 : aW d 163 79 [l0, l1, l2, .int a] S h Q = aW d 163 80 [l0, l1, l2, .int a] (.int a :: S) h Q := ax_iload_n mt163 dX12_orders_79 rfl
theorem s163_80 : aW d 163 80 L (.int b :: .int a :: S) h Q = aW d 163 81 L (.int (a <<< (b &&& 31)) :: S) h Q := ax_ishl mt163 dX12_orders_80
theorem s163_81 : aW d 163 81 L (.int b :: .int a :: S) h Q = aW d 163 82 L (.int (a ||| b) :: S) h Q := ax_ior mt163 dX12_orders_81
theorem s163_82 : aW d 163 82 [l0, l1, l2, l3] (.int a :: S) h Q = aW d 163 83 [l0, .int a, l2, l3] S h Q := ax_istore_n mt163 dX12_orders_82 (Nat.le_of_ble_eq_true rfl) rfl
theorem s163_83 : aW d 163 83 [l0, l1, .int a, l3] S h Q = aW d 163 86 [l0, l1, .int (a + nI 1), l3] S h Q := ax_iinc mt163 dX12_orders_83 rfl ic_1 rfl
theorem s163_86 : aW d 163 86 L S h Q = aW d 163 4 L S h Q := ax_goto mt163 dX12_orders_86 (by decide)
theorem s163_28 : aW d 163 28 L S h Q = aW d 163 29 L (.int (nI 0) :: S) h Q := ax_iconst mt163 dX12_orders_28 ic_0
theorem s163_89 : aW d 163 89 L S h Q = aW d 163 90 L (.int (nI 0) :: S) h Q := ax_iconst mt163 dX12_orders_89 ic_0
theorem s163_90 : aW d 163 90 [l0, l1, l2, l3] (.int a :: S) h Q = aW d 163 91 [l0, l1, .int a, l3] S h Q := ax_istore_n mt163 dX12_orders_90 (Nat.le_of_ble_eq_true rfl) rfl
theorem s163_91 : aW d 163 91 [l0, l1, .int a, l3] S h Q = aW d 163 92 [l0, l1, .int a, l3] (.int a :: S) h Q := ax_iload_n mt163 dX12_orders_91 rfl
theorem s163_92 : aW d 163 92 L S h Q = aW d 163 94 L (.int (nI 12) :: S) h Q := ax_bipush mt163 dX12_orders_92 bp_12
theorem s163_94 : aW d 163 94 L (.int b :: .int a :: S) h Q = (if a < b then aW d 163 97 L S h Q else aW d 163 108 L S h Q) := ax_icmp_ge mt163 dX12_orders_94 (by decide)
theorem s163_97 : aW d 163 97 [.ref o, l1, l2, l3] S h Q = aW d 163 98 [.ref o, l1, l2, l3] (.ref o :: S) h Q := ax_aload_n mt163 dX12_orders_97 rfl
theorem s163_98 : aW d 163 98 [l0, l1, .int a, l3] S h Q = aW d 163 99 [l0, l1, .int a, l3] (.int a :: S) h Q := ax_iload_n mt163 dX12_orders_98 rfl
theorem s163_99 (hT : gT h o = some (14, 54)) : aW (d + 1) 163 99 L (.int x0 :: .ref o :: []) h Q = aM d 164 (.ref o :: [.int x0]) h (fun v h1 => aW (d + 1) 163 102 L (ab_ps v []) h1 Q) := ax_invv mt163 dX12_orders_99 (by decide) ct_49367 (.inl rfl) mt164 ⟨⟨Nat.le_of_ble_eq_true rfl, Nat.le_of_ble_eq_true rfl, Nat.le_of_ble_eq_true rfl⟩, rfl, rfl, rfl⟩ hT
theorem s163_102 : aW d 163 102 [l0, l1, .int a, l3] S h Q = aW d 163 105 [l0, l1, .int (a + nI 1), l3] S h Q := ax_iinc mt163 dX12_orders_102 rfl ic_1 rfl
theorem s163_105 : aW d 163 105 L S h Q = aW d 163 91 L S h Q := ax_goto mt163 dX12_orders_105 (by decide)
theorem s163_108 : aW d 163 108 L S h Q = aW d 163 109 L (.int (nI 1) :: S) h Q := ax_iconst mt163 dX12_orders_108 ic_1
theorem s163_109 : aW d 163 109 L [.int a] h Q = (b01 a ∧ Q (some (.int a)) h) := ax_retz mt163 dX12_orders_109 rfl
-- method 164: BufferRoomModel.lives(I)V
theorem dX12_lives_0 : decode cX12_lives 0 = .ok (.aload_n 0, 1) := by decide +kernel
theorem dX12_lives_1 : decode cX12_lives 1 = .ok (.getfield 107, 3) := by decide +kernel
theorem dX12_lives_4 : decode cX12_lives 4 = .ok (.iload_n 1, 1) := by decide +kernel
theorem dX12_lives_5 : decode cX12_lives 5 = .ok (.iconst 0, 1) := by decide +kernel
theorem dX12_lives_6 : decode cX12_lives 6 = .ok (.iastore, 1) := by decide +kernel
theorem dX12_lives_7 : decode cX12_lives 7 = .ok (.aload_n 0, 1) := by decide +kernel
theorem dX12_lives_8 : decode cX12_lives 8 = .ok (.getfield 110, 3) := by decide +kernel
theorem dX12_lives_11 : decode cX12_lives 11 = .ok (.iload_n 1, 1) := by decide +kernel
theorem dX12_lives_12 : decode cX12_lives 12 = .ok (.iconst (-1), 1) := by decide +kernel
theorem dX12_lives_13 : decode cX12_lives 13 = .ok (.iastore, 1) := by decide +kernel
theorem dX12_lives_14 : decode cX12_lives 14 = .ok (.iconst 0, 1) := by decide +kernel
theorem dX12_lives_15 : decode cX12_lives 15 = .ok (.istore_n 2, 1) := by decide +kernel
theorem dX12_lives_16 : decode cX12_lives 16 = .ok (.iload_n 2, 1) := by decide +kernel
theorem dX12_lives_17 : decode cX12_lives 17 = .ok (.aload_n 0, 1) := by decide +kernel
theorem dX12_lives_18 : decode cX12_lives 18 = .ok (.getfield 165, 3) := by decide +kernel
theorem dX12_lives_21 : decode cX12_lives 21 = .ok (.if_icmp .ge 106, 3) := by decide +kernel
theorem dX12_lives_24 : decode cX12_lives 24 = .ok (.aload_n 0, 1) := by decide +kernel
theorem dX12_lives_25 : decode cX12_lives 25 = .ok (.getfield 16, 3) := by decide +kernel
theorem dX12_lives_28 : decode cX12_lives 28 = .ok (.iload_n 1, 1) := by decide +kernel
theorem dX12_lives_29 : decode cX12_lives 29 = .ok (.baload, 1) := by decide +kernel
theorem dX12_lives_30 : decode cX12_lives 30 = .ok (.ifCond .eq 97, 3) := by decide +kernel
theorem dX12_lives_33 : decode cX12_lives 33 = .ok (.aload_n 0, 1) := by decide +kernel
theorem dX12_lives_34 : decode cX12_lives 34 = .ok (.getfield 38, 3) := by decide +kernel
theorem dX12_lives_37 : decode cX12_lives 37 = .ok (.aload_n 0, 1) := by decide +kernel
theorem dX12_lives_38 : decode cX12_lives 38 = .ok (.getfield 104, 3) := by decide +kernel
theorem dX12_lives_41 : decode cX12_lives 41 = .ok (.iload_n 2, 1) := by decide +kernel
theorem dX12_lives_42 : decode cX12_lives 42 = .ok (.iaload, 1) := by decide +kernel
theorem dX12_lives_43 : decode cX12_lives 43 = .ok (.iaload, 1) := by decide +kernel
theorem dX12_lives_44 : decode cX12_lives 44 = .ok (.iload_n 1, 1) := by decide +kernel
theorem dX12_lives_45 : decode cX12_lives 45 = .ok (.if_icmp .ne 36, 3) := by decide +kernel
theorem dX12_lives_48 : decode cX12_lives 48 = .ok (.aload_n 0, 1) := by decide +kernel
theorem dX12_lives_49 : decode cX12_lives 49 = .ok (.getfield 107, 3) := by decide +kernel
theorem dX12_lives_52 : decode cX12_lives 52 = .ok (.iload_n 1, 1) := by decide +kernel
theorem dX12_lives_53 : decode cX12_lives 53 = .ok (.iload_n 2, 1) := by decide +kernel
theorem dX12_lives_54 : decode cX12_lives 54 = .ok (.iastore, 1) := by decide +kernel
theorem dX12_lives_55 : decode cX12_lives 55 = .ok (.aload_n 0, 1) := by decide +kernel
theorem dX12_lives_56 : decode cX12_lives 56 = .ok (.getfield 110, 3) := by decide +kernel
theorem dX12_lives_59 : decode cX12_lives 59 = .ok (.iload_n 1, 1) := by decide +kernel
theorem dX12_lives_60 : decode cX12_lives 60 = .ok (.iload_n 2, 1) := by decide +kernel
theorem dX12_lives_61 : decode cX12_lives 61 = .ok (.aload_n 0, 1) := by decide +kernel
theorem dX12_lives_62 : decode cX12_lives 62 = .ok (.getfield 110, 3) := by decide +kernel
theorem dX12_lives_65 : decode cX12_lives 65 = .ok (.iload_n 1, 1) := by decide +kernel
theorem dX12_lives_66 : decode cX12_lives 66 = .ok (.iaload, 1) := by decide +kernel
theorem dX12_lives_67 : decode cX12_lives 67 = .ok (.if_icmp .le 7, 3) := by decide +kernel
theorem dX12_lives_70 : decode cX12_lives 70 = .ok (.iload_n 2, 1) := by decide +kernel
theorem dX12_lives_71 : decode cX12_lives 71 = .ok (.goto 9, 3) := by decide +kernel
theorem dX12_lives_74 : decode cX12_lives 74 = .ok (.aload_n 0, 1) := by decide +kernel
theorem dX12_lives_75 : decode cX12_lives 75 = .ok (.getfield 110, 3) := by decide +kernel
theorem dX12_lives_78 : decode cX12_lives 78 = .ok (.iload_n 1, 1) := by decide +kernel
theorem dX12_lives_79 : decode cX12_lives 79 = .ok (.iaload, 1) := by decide +kernel
theorem dX12_lives_80 : decode cX12_lives 80 = .ok (.iastore, 1) := by decide +kernel
theorem dX12_lives_81 : decode cX12_lives 81 = .ok (.aload_n 0, 1) := by decide +kernel
theorem dX12_lives_82 : decode cX12_lives 82 = .ok (.aload_n 0, 1) := by decide +kernel
theorem dX12_lives_83 : decode cX12_lives 83 = .ok (.getfield 104, 3) := by decide +kernel
theorem dX12_lives_86 : decode cX12_lives 86 = .ok (.iload_n 2, 1) := by decide +kernel
theorem dX12_lives_87 : decode cX12_lives 87 = .ok (.iaload, 1) := by decide +kernel
theorem dX12_lives_88 : decode cX12_lives 88 = .ok (.iload_n 1, 1) := by decide +kernel
theorem dX12_lives_89 : decode cX12_lives 89 = .ok (.invokevirtual 219, 3) := by decide +kernel
theorem dX12_lives_92 : decode cX12_lives 92 = .ok (.ifCond .ne 22, 3) := by decide +kernel
theorem dX12_lives_95 : decode cX12_lives 95 = .ok (.aload_n 0, 1) := by decide +kernel
theorem dX12_lives_96 : decode cX12_lives 96 = .ok (.getfield 29, 3) := by decide +kernel
theorem dX12_lives_99 : decode cX12_lives 99 = .ok (.iload_n 1, 1) := by decide +kernel
theorem dX12_lives_100 : decode cX12_lives 100 = .ok (.baload, 1) := by decide +kernel
theorem dX12_lives_101 : decode cX12_lives 101 = .ok (.ifCond .eq 20, 3) := by decide +kernel
theorem dX12_lives_104 : decode cX12_lives 104 = .ok (.iload_n 2, 1) := by decide +kernel
theorem dX12_lives_105 : decode cX12_lives 105 = .ok (.aload_n 0, 1) := by decide +kernel
theorem dX12_lives_106 : decode cX12_lives 106 = .ok (.getfield 165, 3) := by decide +kernel
theorem dX12_lives_109 : decode cX12_lives 109 = .ok (.iconst 1, 1) := by decide +kernel
theorem dX12_lives_110 : decode cX12_lives 110 = .ok (.isub, 1) := by decide +kernel
theorem dX12_lives_111 : decode cX12_lives 111 = .ok (.if_icmp .ne 10, 3) := by decide +kernel
theorem dX12_lives_114 : decode cX12_lives 114 = .ok (.aload_n 0, 1) := by decide +kernel
theorem dX12_lives_115 : decode cX12_lives 115 = .ok (.getfield 110, 3) := by decide +kernel
theorem dX12_lives_118 : decode cX12_lives 118 = .ok (.iload_n 1, 1) := by decide +kernel
theorem dX12_lives_119 : decode cX12_lives 119 = .ok (.iload_n 2, 1) := by decide +kernel
theorem dX12_lives_120 : decode cX12_lives 120 = .ok (.iastore, 1) := by decide +kernel
theorem dX12_lives_121 : decode cX12_lives 121 = .ok (.iinc 2 1, 3) := by decide +kernel
theorem dX12_lives_124 : decode cX12_lives 124 = .ok (.goto (-108), 3) := by decide +kernel
theorem dX12_lives_127 : decode cX12_lives 127 = .ok (.return_, 1) := by decide +kernel
theorem s164_0 : aW d 164 0 [.ref o, l1, l2] S h Q = aW d 164 1 [.ref o, l1, l2] (.ref o :: S) h Q := ax_aload_n mt164 dX12_lives_0 rfl
theorem s164_1 (hT : gT h o = some (14, 54)) : aW d 164 1 L (.ref o :: S) h Q = (isRf (gR h o 47) = true ∧ aW d 164 4 L (gR h o 47 :: S) h Q) := ax_geta mt164 dX12_lives_1 (by decide) ft_49259 fk_49259 hT
theorem s164_4 : aW d 164 4 [l0, .int a, l2] S h Q = aW d 164 5 [l0, .int a, l2] (.int a :: S) h Q := ax_iload_n mt164 dX12_lives_4 rfl
theorem s164_5 : aW d 164 5 L S h Q = aW d 164 6 L (.int (nI 0) :: S) h Q := ax_iconst mt164 dX12_lives_5 ic_0
theorem s164_6 : aW d 164 6 L (.int b :: .int a :: .ref o :: S) h Q = (inb a (aJ h o) ∧ aW d 164 7 L S (pI h o a.toNatClampNeg b) Q) := ax_iast mt164 dX12_lives_6
theorem s164_7 : aW d 164 7 [.ref o, l1, l2] S h Q = aW d 164 8 [.ref o, l1, l2] (.ref o :: S) h Q := ax_aload_n mt164 dX12_lives_7 rfl
theorem s164_8 (hT : gT h o = some (14, 54)) : aW d 164 8 L (.ref o :: S) h Q = (isRf (gR h o 48) = true ∧ aW d 164 11 L (gR h o 48 :: S) h Q) := ax_geta mt164 dX12_lives_8 (by decide) ft_49262 fk_49262 hT
theorem s164_11 : aW d 164 11 [l0, .int a, l2] S h Q = aW d 164 12 [l0, .int a, l2] (.int a :: S) h Q := ax_iload_n mt164 dX12_lives_11 rfl
theorem s164_12 : aW d 164 12 L S h Q = aW d 164 13 L (.int ((-1)) :: S) h Q := ax_iconst mt164 dX12_lives_12 ic_m1
theorem s164_13 : aW d 164 13 L (.int b :: .int a :: .ref o :: S) h Q = (inb a (aJ h o) ∧ aW d 164 14 L S (pI h o a.toNatClampNeg b) Q) := ax_iast mt164 dX12_lives_13
theorem s164_14 : aW d 164 14 L S h Q = aW d 164 15 L (.int (nI 0) :: S) h Q := ax_iconst mt164 dX12_lives_14 ic_0
theorem s164_15 : aW d 164 15 [l0, l1, l2] (.int a :: S) h Q = aW d 164 16 [l0, l1, .int a] S h Q := ax_istore_n mt164 dX12_lives_15 (Nat.le_of_ble_eq_true rfl) rfl
theorem s164_16 : aW d 164 16 [l0, l1, .int a] S h Q = aW d 164 17 [l0, l1, .int a] (.int a :: S) h Q := ax_iload_n mt164 dX12_lives_16 rfl
theorem s164_17 : aW d 164 17 [.ref o, l1, l2] S h Q = aW d 164 18 [.ref o, l1, l2] (.ref o :: S) h Q := ax_aload_n mt164 dX12_lives_17 rfl
theorem s164_18 (hT : gT h o = some (14, 54)) : aW d 164 18 L (.ref o :: S) h Q = aW d 164 21 L (.int (gI h o 4) :: S) h Q := ax_geti mt164 dX12_lives_18 (by decide) ft_49317 fk_49317 hT
theorem s164_21 : aW d 164 21 L (.int b :: .int a :: S) h Q = (if a < b then aW d 164 24 L S h Q else aW d 164 127 L S h Q) := ax_icmp_ge mt164 dX12_lives_21 (by decide)
theorem s164_24 : aW d 164 24 [.ref o, l1, l2] S h Q = aW d 164 25 [.ref o, l1, l2] (.ref o :: S) h Q := ax_aload_n mt164 dX12_lives_24 rfl
theorem s164_25 (hT : gT h o = some (14, 54)) : aW d 164 25 L (.ref o :: S) h Q = (isRf (gR h o 5) = true ∧ aW d 164 28 L (gR h o 5 :: S) h Q) := ax_geta mt164 dX12_lives_25 (by decide) ft_49168 fk_49168 hT
theorem s164_28 : aW d 164 28 [l0, .int a, l2] S h Q = aW d 164 29 [l0, .int a, l2] (.int a :: S) h Q := ax_iload_n mt164 dX12_lives_28 rfl
theorem s164_29 : aW d 164 29 L (.int a :: .ref o :: S) h Q = (inb a (aZ h o) ∧ aW d 164 30 L (.int (gI h o a.toNatClampNeg) :: S) h Q) := ax_zald mt164 dX12_lives_29
theorem s164_30 : aW d 164 30 L (.int a :: S) h Q = (if a = 0 then aW d 164 127 L S h Q else aW d 164 33 L S h Q) := ax_if_eq mt164 dX12_lives_30 (by decide)
theorem s164_33 : aW d 164 33 [.ref o, l1, l2] S h Q = aW d 164 34 [.ref o, l1, l2] (.ref o :: S) h Q := ax_aload_n mt164 dX12_lives_33 rfl
theorem s164_34 (hT : gT h o = some (14, 54)) : aW d 164 34 L (.ref o :: S) h Q = (isRf (gR h o 12) = true ∧ aW d 164 37 L (gR h o 12 :: S) h Q) := ax_geta mt164 dX12_lives_34 (by decide) ft_49190 fk_49190 hT
theorem s164_37 : aW d 164 37 [.ref o, l1, l2] S h Q = aW d 164 38 [.ref o, l1, l2] (.ref o :: S) h Q := ax_aload_n mt164 dX12_lives_37 rfl
theorem s164_38 (hT : gT h o = some (14, 54)) : aW d 164 38 L (.ref o :: S) h Q = (isRf (gR h o 46) = true ∧ aW d 164 41 L (gR h o 46 :: S) h Q) := ax_geta mt164 dX12_lives_38 (by decide) ft_49256 fk_49256 hT
theorem s164_41 : aW d 164 41 [l0, l1, .int a] S h Q = aW d 164 42 [l0, l1, .int a] (.int a :: S) h Q := ax_iload_n mt164 dX12_lives_41 rfl
theorem s164_42 : aW d 164 42 L (.int a :: .ref o :: S) h Q = (inb a (aI h o) ∧ aW d 164 43 L (.int (gI h o a.toNatClampNeg) :: S) h Q) := ax_iald mt164 dX12_lives_42
theorem s164_43 : aW d 164 43 L (.int a :: .ref o :: S) h Q = (inb a (aI h o) ∧ aW d 164 44 L (.int (gI h o a.toNatClampNeg) :: S) h Q) := ax_iald mt164 dX12_lives_43
theorem s164_44 : aW d 164 44 [l0, .int a, l2] S h Q = aW d 164 45 [l0, .int a, l2] (.int a :: S) h Q := ax_iload_n mt164 dX12_lives_44 rfl
theorem s164_45 : aW d 164 45 L (.int b :: .int a :: S) h Q = (if a = b then aW d 164 48 L S h Q else aW d 164 81 L S h Q) := ax_icmp_ne mt164 dX12_lives_45 (by decide)
theorem s164_48 : aW d 164 48 [.ref o, l1, l2] S h Q = aW d 164 49 [.ref o, l1, l2] (.ref o :: S) h Q := ax_aload_n mt164 dX12_lives_48 rfl
theorem s164_49 (hT : gT h o = some (14, 54)) : aW d 164 49 L (.ref o :: S) h Q = (isRf (gR h o 47) = true ∧ aW d 164 52 L (gR h o 47 :: S) h Q) := ax_geta mt164 dX12_lives_49 (by decide) ft_49259 fk_49259 hT
theorem s164_52 : aW d 164 52 [l0, .int a, l2] S h Q = aW d 164 53 [l0, .int a, l2] (.int a :: S) h Q := ax_iload_n mt164 dX12_lives_52 rfl
theorem s164_53 : aW d 164 53 [l0, l1, .int a] S h Q = aW d 164 54 [l0, l1, .int a] (.int a :: S) h Q := ax_iload_n mt164 dX12_lives_53 rfl
theorem s164_54 : aW d 164 54 L (.int b :: .int a :: .ref o :: S) h Q = (inb a (aJ h o) ∧ aW d 164 55 L S (pI h o a.toNatClampNeg b) Q) := ax_iast mt164 dX12_lives_54
theorem s164_55 : aW d 164 55 [.ref o, l1, l2] S h Q = aW d 164 56 [.ref o, l1, l2] (.ref o :: S) h Q := ax_aload_n mt164 dX12_lives_55 rfl
theorem s164_56 (hT : gT h o = some (14, 54)) : aW d 164 56 L (.ref o :: S) h Q = (isRf (gR h o 48) = true ∧ aW d 164 59 L (gR h o 48 :: S) h Q) := ax_geta mt164 dX12_lives_56 (by decide) ft_49262 fk_49262 hT
theorem s164_59 : aW d 164 59 [l0, .int a, l2] S h Q = aW d 164 60 [l0, .int a, l2] (.int a :: S) h Q := ax_iload_n mt164 dX12_lives_59 rfl
theorem s164_60 : aW d 164 60 [l0, l1, .int a] S h Q = aW d 164 61 [l0, l1, .int a] (.int a :: S) h Q := ax_iload_n mt164 dX12_lives_60 rfl
theorem s164_61 : aW d 164 61 [.ref o, l1, l2] S h Q = aW d 164 62 [.ref o, l1, l2] (.ref o :: S) h Q := ax_aload_n mt164 dX12_lives_61 rfl
theorem s164_62 (hT : gT h o = some (14, 54)) : aW d 164 62 L (.ref o :: S) h Q = (isRf (gR h o 48) = true ∧ aW d 164 65 L (gR h o 48 :: S) h Q) := ax_geta mt164 dX12_lives_62 (by decide) ft_49262 fk_49262 hT
theorem s164_65 : aW d 164 65 [l0, .int a, l2] S h Q = aW d 164 66 [l0, .int a, l2] (.int a :: S) h Q := ax_iload_n mt164 dX12_lives_65 rfl
theorem s164_66 : aW d 164 66 L (.int a :: .ref o :: S) h Q = (inb a (aI h o) ∧ aW d 164 67 L (.int (gI h o a.toNatClampNeg) :: S) h Q) := ax_iald mt164 dX12_lives_66
theorem s164_67 : aW d 164 67 L (.int b :: .int a :: S) h Q = (if b < a then aW d 164 70 L S h Q else aW d 164 74 L S h Q) := ax_icmp_le mt164 dX12_lives_67 (by decide)
theorem s164_70 : aW d 164 70 [l0, l1, .int a] S h Q = aW d 164 71 [l0, l1, .int a] (.int a :: S) h Q := ax_iload_n mt164 dX12_lives_70 rfl
theorem s164_71 : aW d 164 71 L S h Q = aW d 164 80 L S h Q := ax_goto mt164 dX12_lives_71 (by decide)
theorem s164_80 : aW d 164 80 L (.int b :: .int a :: .ref o :: S) h Q = (inb a (aJ h o) ∧ aW d 164 81 L S (pI h o a.toNatClampNeg b) Q) := ax_iast mt164 dX12_lives_80
theorem s164_74 : aW d 164 74 [.ref o, l1, l2] S h Q = aW d 164 75 [.ref o, l1, l2] (.ref o :: S) h Q := ax_aload_n mt164 dX12_lives_74 rfl
theorem s164_75 (hT : gT h o = some (14, 54)) : aW d 164 75 L (.ref o :: S) h Q = (isRf (gR h o 48) = true ∧ aW d 164 78 L (gR h o 48 :: S) h Q) := ax_geta mt164 dX12_lives_75 (by decide) ft_49262 fk_49262 hT
theorem s164_78 : aW d 164 78 [l0, .int a, l2] S h Q = aW d 164 79 [l0, .int a, l2] (.int a :: S) h Q := ax_iload_n mt164 dX12_lives_78 rfl
theorem s164_79 : aW d 164 79 L (.int a :: .ref o :: S) h Q = (inb a (aI h o) ∧ aW d 164 80 L (.int (gI h o a.toNatClampNeg) :: S) h Q) := ax_iald mt164 dX12_lives_79
theorem s164_81 : aW d 164 81 [.ref o, l1, l2] S h Q = aW d 164 82 [.ref o, l1, l2] (.ref o :: S) h Q := ax_aload_n mt164 dX12_lives_81 rfl
theorem s164_82 : aW d 164 82 [.ref o, l1, l2] S h Q = aW d 164 83 [.ref o, l1, l2] (.ref o :: S) h Q := ax_aload_n mt164 dX12_lives_82 rfl
theorem s164_83 (hT : gT h o = some (14, 54)) : aW d 164 83 L (.ref o :: S) h Q = (isRf (gR h o 46) = true ∧ aW d 164 86 L (gR h o 46 :: S) h Q) := ax_geta mt164 dX12_lives_83 (by decide) ft_49256 fk_49256 hT
theorem s164_86 : aW d 164 86 [l0, l1, .int a] S h Q = aW d 164 87 [l0, l1, .int a] (.int a :: S) h Q := ax_iload_n mt164 dX12_lives_86 rfl
theorem s164_87 : aW d 164 87 L (.int a :: .ref o :: S) h Q = (inb a (aI h o) ∧ aW d 164 88 L (.int (gI h o a.toNatClampNeg) :: S) h Q) := ax_iald mt164 dX12_lives_87
theorem s164_88 : aW d 164 88 [l0, .int a, l2] S h Q = aW d 164 89 [l0, .int a, l2] (.int a :: S) h Q := ax_iload_n mt164 dX12_lives_88 rfl
theorem s164_89 (hT : gT h o = some (14, 54)) : aW (d + 1) 164 89 L (.int x1 :: .int x0 :: .ref o :: []) h Q = aM d 160 (.ref o :: [.int x0, .int x1]) h (fun v h1 => aW (d + 1) 164 92 L (ab_ps v []) h1 Q) := ax_invv mt164 dX12_lives_89 (by decide) ct_49371 (.inl rfl) mt160 ⟨⟨Nat.le_of_ble_eq_true rfl, Nat.le_of_ble_eq_true rfl, Nat.le_of_ble_eq_true rfl⟩, rfl, rfl, rfl⟩ hT
theorem s164_92 : aW d 164 92 L (.int a :: S) h Q = (if a = 0 then aW d 164 95 L S h Q else aW d 164 114 L S h Q) := ax_if_ne mt164 dX12_lives_92 (by decide)
theorem s164_95 : aW d 164 95 [.ref o, l1, l2] S h Q = aW d 164 96 [.ref o, l1, l2] (.ref o :: S) h Q := ax_aload_n mt164 dX12_lives_95 rfl
theorem s164_96 (hT : gT h o = some (14, 54)) : aW d 164 96 L (.ref o :: S) h Q = (isRf (gR h o 9) = true ∧ aW d 164 99 L (gR h o 9 :: S) h Q) := ax_geta mt164 dX12_lives_96 (by decide) ft_49181 fk_49181 hT
theorem s164_99 : aW d 164 99 [l0, .int a, l2] S h Q = aW d 164 100 [l0, .int a, l2] (.int a :: S) h Q := ax_iload_n mt164 dX12_lives_99 rfl
theorem s164_100 : aW d 164 100 L (.int a :: .ref o :: S) h Q = (inb a (aZ h o) ∧ aW d 164 101 L (.int (gI h o a.toNatClampNeg) :: S) h Q) := ax_zald mt164 dX12_lives_100
theorem s164_101 : aW d 164 101 L (.int a :: S) h Q = (if a = 0 then aW d 164 121 L S h Q else aW d 164 104 L S h Q) := ax_if_eq mt164 dX12_lives_101 (by decide)
theorem s164_104 : aW d 164 104 [l0, l1, .int a] S h Q = aW d 164 105 [l0, l1, .int a] (.int a :: S) h Q := ax_iload_n mt164 dX12_lives_104 rfl
theorem s164_105 : aW d 164 105 [.ref o, l1, l2] S h Q = aW d 164 106 [.ref o, l1, l2] (.ref o :: S) h Q := ax_aload_n mt164 dX12_lives_105 rfl
theorem s164_106 (hT : gT h o = some (14, 54)) : aW d 164 106 L (.ref o :: S) h Q = aW d 164 109 L (.int (gI h o 4) :: S) h Q := ax_geti mt164 dX12_lives_106 (by decide) ft_49317 fk_49317 hT
theorem s164_109 : aW d 164 109 L S h Q = aW d 164 110 L (.int (nI 1) :: S) h Q := ax_iconst mt164 dX12_lives_109 ic_1
theorem s164_110 : aW d 164 110 L (.int b :: .int a :: S) h Q = aW d 164 111 L (.int (a - b) :: S) h Q := ax_isub mt164 dX12_lives_110
theorem s164_111 : aW d 164 111 L (.int b :: .int a :: S) h Q = (if a = b then aW d 164 114 L S h Q else aW d 164 121 L S h Q) := ax_icmp_ne mt164 dX12_lives_111 (by decide)
theorem s164_121 : aW d 164 121 [l0, l1, .int a] S h Q = aW d 164 124 [l0, l1, .int (a + nI 1)] S h Q := ax_iinc mt164 dX12_lives_121 rfl ic_1 rfl
theorem s164_124 : aW d 164 124 L S h Q = aW d 164 16 L S h Q := ax_goto mt164 dX12_lives_124 (by decide)
theorem s164_114 : aW d 164 114 [.ref o, l1, l2] S h Q = aW d 164 115 [.ref o, l1, l2] (.ref o :: S) h Q := ax_aload_n mt164 dX12_lives_114 rfl
theorem s164_115 (hT : gT h o = some (14, 54)) : aW d 164 115 L (.ref o :: S) h Q = (isRf (gR h o 48) = true ∧ aW d 164 118 L (gR h o 48 :: S) h Q) := ax_geta mt164 dX12_lives_115 (by decide) ft_49262 fk_49262 hT
theorem s164_118 : aW d 164 118 [l0, .int a, l2] S h Q = aW d 164 119 [l0, .int a, l2] (.int a :: S) h Q := ax_iload_n mt164 dX12_lives_118 rfl
theorem s164_119 : aW d 164 119 [l0, l1, .int a] S h Q = aW d 164 120 [l0, l1, .int a] (.int a :: S) h Q := ax_iload_n mt164 dX12_lives_119 rfl
theorem s164_120 : aW d 164 120 L (.int b :: .int a :: .ref o :: S) h Q = (inb a (aJ h o) ∧ aW d 164 121 L S (pI h o a.toNatClampNeg b) Q) := ax_iast mt164 dX12_lives_120
theorem s164_127 : aW d 164 127 L [] h Q = Q none h := ax_retv mt164 dX12_lives_127 rfl
-- method 165: BufferRoomModel.isAlive(II)Z
theorem dX12_isAlive_0 : decode cX12_isAlive 0 = .ok (.aload_n 0, 1) := by decide +kernel
theorem dX12_isAlive_1 : decode cX12_isAlive 1 = .ok (.getfield 16, 3) := by decide +kernel
theorem dX12_isAlive_4 : decode cX12_isAlive 4 = .ok (.iload_n 1, 1) := by decide +kernel
theorem dX12_isAlive_5 : decode cX12_isAlive 5 = .ok (.baload, 1) := by decide +kernel
theorem dX12_isAlive_6 : decode cX12_isAlive 6 = .ok (.ifCond .eq 27, 3) := by decide +kernel
theorem dX12_isAlive_9 : decode cX12_isAlive 9 = .ok (.iload_n 2, 1) := by decide +kernel
theorem dX12_isAlive_10 : decode cX12_isAlive 10 = .ok (.aload_n 0, 1) := by decide +kernel
theorem dX12_isAlive_11 : decode cX12_isAlive 11 = .ok (.getfield 107, 3) := by decide +kernel
theorem dX12_isAlive_14 : decode cX12_isAlive 14 = .ok (.iload_n 1, 1) := by decide +kernel
theorem dX12_isAlive_15 : decode cX12_isAlive 15 = .ok (.iaload, 1) := by decide +kernel
theorem dX12_isAlive_16 : decode cX12_isAlive 16 = .ok (.if_icmp .lt 17, 3) := by decide +kernel
theorem dX12_isAlive_19 : decode cX12_isAlive 19 = .ok (.iload_n 2, 1) := by decide +kernel
theorem dX12_isAlive_20 : decode cX12_isAlive 20 = .ok (.aload_n 0, 1) := by decide +kernel
theorem dX12_isAlive_21 : decode cX12_isAlive 21 = .ok (.getfield 110, 3) := by decide +kernel
theorem dX12_isAlive_24 : decode cX12_isAlive 24 = .ok (.iload_n 1, 1) := by decide +kernel
theorem dX12_isAlive_25 : decode cX12_isAlive 25 = .ok (.iaload, 1) := by decide +kernel
theorem dX12_isAlive_26 : decode cX12_isAlive 26 = .ok (.if_icmp .gt 7, 3) := by decide +kernel
theorem dX12_isAlive_29 : decode cX12_isAlive 29 = .ok (.iconst 1, 1) := by decide +kernel
theorem dX12_isAlive_30 : decode cX12_isAlive 30 = .ok (.goto 4, 3) := by decide +kernel
theorem dX12_isAlive_33 : decode cX12_isAlive 33 = .ok (.iconst 0, 1) := by decide +kernel
theorem dX12_isAlive_34 : decode cX12_isAlive 34 = .ok (.ireturn, 1) := by decide +kernel
theorem s165_0 : aW d 165 0 [.ref o, l1, l2] S h Q = aW d 165 1 [.ref o, l1, l2] (.ref o :: S) h Q := ax_aload_n mt165 dX12_isAlive_0 rfl
theorem s165_1 (hT : gT h o = some (14, 54)) : aW d 165 1 L (.ref o :: S) h Q = (isRf (gR h o 5) = true ∧ aW d 165 4 L (gR h o 5 :: S) h Q) := ax_geta mt165 dX12_isAlive_1 (by decide) ft_49168 fk_49168 hT
theorem s165_4 : aW d 165 4 [l0, .int a, l2] S h Q = aW d 165 5 [l0, .int a, l2] (.int a :: S) h Q := ax_iload_n mt165 dX12_isAlive_4 rfl
theorem s165_5 : aW d 165 5 L (.int a :: .ref o :: S) h Q = (inb a (aZ h o) ∧ aW d 165 6 L (.int (gI h o a.toNatClampNeg) :: S) h Q) := ax_zald mt165 dX12_isAlive_5
theorem s165_6 : aW d 165 6 L (.int a :: S) h Q = (if a = 0 then aW d 165 33 L S h Q else aW d 165 9 L S h Q) := ax_if_eq mt165 dX12_isAlive_6 (by decide)
theorem s165_9 : aW d 165 9 [l0, l1, .int a] S h Q = aW d 165 10 [l0, l1, .int a] (.int a :: S) h Q := ax_iload_n mt165 dX12_isAlive_9 rfl
theorem s165_10 : aW d 165 10 [.ref o, l1, l2] S h Q = aW d 165 11 [.ref o, l1, l2] (.ref o :: S) h Q := ax_aload_n mt165 dX12_isAlive_10 rfl
theorem s165_11 (hT : gT h o = some (14, 54)) : aW d 165 11 L (.ref o :: S) h Q = (isRf (gR h o 47) = true ∧ aW d 165 14 L (gR h o 47 :: S) h Q) := ax_geta mt165 dX12_isAlive_11 (by decide) ft_49259 fk_49259 hT
theorem s165_14 : aW d 165 14 [l0, .int a, l2] S h Q = aW d 165 15 [l0, .int a, l2] (.int a :: S) h Q := ax_iload_n mt165 dX12_isAlive_14 rfl
theorem s165_15 : aW d 165 15 L (.int a :: .ref o :: S) h Q = (inb a (aI h o) ∧ aW d 165 16 L (.int (gI h o a.toNatClampNeg) :: S) h Q) := ax_iald mt165 dX12_isAlive_15
theorem s165_16 : aW d 165 16 L (.int b :: .int a :: S) h Q = (if a < b then aW d 165 33 L S h Q else aW d 165 19 L S h Q) := ax_icmp_lt mt165 dX12_isAlive_16 (by decide)
theorem s165_19 : aW d 165 19 [l0, l1, .int a] S h Q = aW d 165 20 [l0, l1, .int a] (.int a :: S) h Q := ax_iload_n mt165 dX12_isAlive_19 rfl
theorem s165_20 : aW d 165 20 [.ref o, l1, l2] S h Q = aW d 165 21 [.ref o, l1, l2] (.ref o :: S) h Q := ax_aload_n mt165 dX12_isAlive_20 rfl
theorem s165_21 (hT : gT h o = some (14, 54)) : aW d 165 21 L (.ref o :: S) h Q = (isRf (gR h o 48) = true ∧ aW d 165 24 L (gR h o 48 :: S) h Q) := ax_geta mt165 dX12_isAlive_21 (by decide) ft_49262 fk_49262 hT
theorem s165_24 : aW d 165 24 [l0, .int a, l2] S h Q = aW d 165 25 [l0, .int a, l2] (.int a :: S) h Q := ax_iload_n mt165 dX12_isAlive_24 rfl
theorem s165_25 : aW d 165 25 L (.int a :: .ref o :: S) h Q = (inb a (aI h o) ∧ aW d 165 26 L (.int (gI h o a.toNatClampNeg) :: S) h Q) := ax_iald mt165 dX12_isAlive_25
theorem s165_26 : aW d 165 26 L (.int b :: .int a :: S) h Q = (if b < a then aW d 165 33 L S h Q else aW d 165 29 L S h Q) := ax_icmp_gt mt165 dX12_isAlive_26 (by decide)
theorem s165_29 : aW d 165 29 L S h Q = aW d 165 30 L (.int (nI 1) :: S) h Q := ax_iconst mt165 dX12_isAlive_29 ic_1
theorem s165_30 : aW d 165 30 L S h Q = aW d 165 34 L S h Q := ax_goto mt165 dX12_isAlive_30 (by decide)
theorem s165_34 : aW d 165 34 L [.int a] h Q = (b01 a ∧ Q (some (.int a)) h) := ax_retz mt165 dX12_isAlive_34 rfl
theorem s165_33 : aW d 165 33 L S h Q = aW d 165 34 L (.int (nI 0) :: S) h Q := ax_iconst mt165 dX12_isAlive_33 ic_0
-- method 166: BufferRoomModel.order(I)I
theorem dX12_order_0 : decode cX12_order 0 = .ok (.iload_n 1, 1) := by decide +kernel
theorem dX12_order_1 : decode cX12_order 1 = .ok (.iconst 0, 1) := by decide +kernel
theorem dX12_order_2 : decode cX12_order 2 = .ok (.iconst 3, 1) := by decide +kernel
theorem dX12_order_3 : decode cX12_order 3 = .ok (.invokestatic 125, 3) := by decide +kernel
theorem dX12_order_6 : decode cX12_order 6 = .ok (.ifCond .ne 6, 3) := by decide +kernel
theorem dX12_order_9 : decode cX12_order 9 = .ok (.bipush (-5), 2) := by decide +kernel
theorem dX12_order_11 : decode cX12_order 11 = .ok (.ireturn, 1) := by decide +kernel
theorem dX12_order_12 : decode cX12_order 12 = .ok (.aload_n 0, 1) := by decide +kernel
theorem dX12_order_13 : decode cX12_order 13 = .ok (.getfield 95, 3) := by decide +kernel
theorem dX12_order_16 : decode cX12_order 16 = .ok (.iload_n 1, 1) := by decide +kernel
theorem dX12_order_17 : decode cX12_order 17 = .ok (.iaload, 1) := by decide +kernel
theorem dX12_order_18 : decode cX12_order 18 = .ok (.iconst (-1), 1) := by decide +kernel
theorem dX12_order_19 : decode cX12_order 19 = .ok (.if_icmp .ne 6, 3) := by decide +kernel
theorem dX12_order_22 : decode cX12_order 22 = .ok (.bipush (-11), 2) := by decide +kernel
theorem dX12_order_24 : decode cX12_order 24 = .ok (.ireturn, 1) := by decide +kernel
theorem dX12_order_25 : decode cX12_order 25 = .ok (.aload_n 0, 1) := by decide +kernel
theorem dX12_order_26 : decode cX12_order 26 = .ok (.getfield 98, 3) := by decide +kernel
theorem dX12_order_29 : decode cX12_order 29 = .ok (.iload_n 1, 1) := by decide +kernel
theorem dX12_order_30 : decode cX12_order 30 = .ok (.iaload, 1) := by decide +kernel
theorem dX12_order_31 : decode cX12_order 31 = .ok (.aload_n 0, 1) := by decide +kernel
theorem dX12_order_32 : decode cX12_order 32 = .ok (.getfield 165, 3) := by decide +kernel
theorem dX12_order_35 : decode cX12_order 35 = .ok (.if_icmp .eq 6, 3) := by decide +kernel
theorem dX12_order_38 : decode cX12_order 38 = .ok (.bipush (-2), 2) := by decide +kernel
theorem dX12_order_40 : decode cX12_order 40 = .ok (.ireturn, 1) := by decide +kernel
theorem dX12_order_41 : decode cX12_order 41 = .ok (.aload_n 0, 1) := by decide +kernel
theorem dX12_order_42 : decode cX12_order 42 = .ok (.getfield 190, 3) := by decide +kernel
theorem dX12_order_45 : decode cX12_order 45 = .ok (.ifCond .le 6, 3) := by decide +kernel
theorem dX12_order_48 : decode cX12_order 48 = .ok (.bipush (-3), 2) := by decide +kernel
theorem dX12_order_50 : decode cX12_order 50 = .ok (.ireturn, 1) := by decide +kernel
theorem dX12_order_51 : decode cX12_order 51 = .ok (.iconst 0, 1) := by decide +kernel
theorem dX12_order_52 : decode cX12_order 52 = .ok (.istore_n 2, 1) := by decide +kernel
theorem dX12_order_53 : decode cX12_order 53 = .ok (.iconst 0, 1) := by decide +kernel
theorem dX12_order_54 : decode cX12_order 54 = .ok (.istore_n 3, 1) := by decide +kernel
theorem dX12_order_55 : decode cX12_order 55 = .ok (.iload_n 3, 1) := by decide +kernel
theorem dX12_order_56 : decode cX12_order 56 = .ok (.aload_n 0, 1) := by decide +kernel
theorem dX12_order_57 : decode cX12_order 57 = .ok (.getfield 165, 3) := by decide +kernel
theorem dX12_order_60 : decode cX12_order 60 = .ok (.if_icmp .ge 78, 3) := by decide +kernel
theorem dX12_order_63 : decode cX12_order 63 = .ok (.aload_n 0, 1) := by decide +kernel
theorem dX12_order_64 : decode cX12_order 64 = .ok (.getfield 101, 3) := by decide +kernel
theorem dX12_order_67 : decode cX12_order 67 = .ok (.bipush 40, 2) := by decide +kernel
theorem dX12_order_69 : decode cX12_order 69 = .ok (.iload_n 1, 1) := by decide +kernel
theorem dX12_order_70 : decode cX12_order 70 = .ok (.imul, 1) := by decide +kernel
theorem dX12_order_71 : decode cX12_order 71 = .ok (.iload_n 3, 1) := by decide +kernel
theorem dX12_order_72 : decode cX12_order 72 = .ok (.iadd, 1) := by decide +kernel
theorem dX12_order_73 : decode cX12_order 73 = .ok (.iaload, 1) := by decide +kernel
theorem dX12_order_74 : decode cX12_order 74 = .ok (.istore 4, 2) := by decide +kernel
theorem dX12_order_76 : decode cX12_order 76 = .ok (.iload 4, 2) := by decide +kernel
theorem dX12_order_78 : decode cX12_order 78 = .ok (.iconst 0, 1) := by decide +kernel
theorem dX12_order_79 : decode cX12_order 79 = .ok (.aload_n 0, 1) := by decide +kernel
theorem dX12_order_80 : decode cX12_order 80 = .ok (.getfield 165, 3) := by decide +kernel
theorem dX12_order_83 : decode cX12_order 83 = .ok (.iconst 1, 1) := by decide +kernel
theorem dX12_order_84 : decode cX12_order 84 = .ok (.isub, 1) := by decide +kernel
theorem dX12_order_85 : decode cX12_order 85 = .ok (.invokestatic 125, 3) := by decide +kernel
theorem dX12_order_88 : decode cX12_order 88 = .ok (.ifCond .eq 32, 3) := by decide +kernel
theorem dX12_order_91 : decode cX12_order 91 = .ok (.aload_n 0, 1) := by decide +kernel
theorem dX12_order_92 : decode cX12_order 92 = .ok (.iload 4, 2) := by decide +kernel
theorem dX12_order_94 : decode cX12_order 94 = .ok (.iconst 0, 1) := by decide +kernel
theorem dX12_order_95 : decode cX12_order 95 = .ok (.aload_n 0, 1) := by decide +kernel
theorem dX12_order_96 : decode cX12_order 96 = .ok (.getfield 165, 3) := by decide +kernel
theorem dX12_order_99 : decode cX12_order 99 = .ok (.iconst 1, 1) := by decide +kernel
theorem dX12_order_100 : decode cX12_order 100 = .ok (.isub, 1) := by decide +kernel
theorem dX12_order_101 : decode cX12_order 101 = .ok (.invokestatic 125, 3) := by decide +kernel
theorem dX12_order_104 : decode cX12_order 104 = .ok (.ifCond .eq 8, 3) := by decide +kernel
theorem dX12_order_107 : decode cX12_order 107 = .ok (.iload 4, 2) := by decide +kernel
theorem dX12_order_109 : decode cX12_order 109 = .ok (.goto 4, 3) := by decide +kernel
theorem dX12_order_112 : decode cX12_order 112 = .ok (.iconst 0, 1) := by decide +kernel
theorem dX12_order_113 : decode cX12_order 113 = .ok (.iload_n 2, 1) := by decide +kernel
theorem dX12_order_114 : decode cX12_order 114 = .ok (.invokevirtual 211, 3) := by decide +kernel
theorem dX12_order_117 : decode cX12_order 117 = .ok (.ifCond .ne 8, 3) := by decide +kernel
theorem dX12_order_120 : decode cX12_order 120 = .ok (.bipush (-100), 2) := by decide +kernel
theorem dX12_order_122 : decode cX12_order 122 = .ok (.iload_n 3, 1) := by decide +kernel
theorem dX12_order_123 : decode cX12_order 123 = .ok (.isub, 1) := by decide +kernel
theorem dX12_order_124 : decode cX12_order 124 = .ok (.ireturn, 1) := by decide +kernel
theorem dX12_order_125 : decode cX12_order 125 = .ok (.iload_n 2, 1) := by decide +kernel
theorem dX12_order_126 : decode cX12_order 126 = .ok (.iconst 1, 1) := by decide +kernel
theorem dX12_order_127 : decode cX12_order 127 = .ok (.iload 4, 2) := by decide +kernel
theorem dX12_order_129 : decode cX12_order 129 = .ok (.ishl, 1) := by decide +kernel
theorem dX12_order_130 : decode cX12_order 130 = .ok (.ior, 1) := by decide +kernel
theorem dX12_order_131 : decode cX12_order 131 = .ok (.istore_n 2, 1) := by decide +kernel
theorem dX12_order_132 : decode cX12_order 132 = .ok (.iinc 3 1, 3) := by decide +kernel
theorem dX12_order_135 : decode cX12_order 135 = .ok (.goto (-80), 3) := by decide +kernel
theorem dX12_order_138 : decode cX12_order 138 = .ok (.iconst 0, 1) := by decide +kernel
theorem dX12_order_139 : decode cX12_order 139 = .ok (.istore_n 3, 1) := by decide +kernel
theorem dX12_order_140 : decode cX12_order 140 = .ok (.iload_n 3, 1) := by decide +kernel
theorem dX12_order_141 : decode cX12_order 141 = .ok (.aload_n 0, 1) := by decide +kernel
theorem dX12_order_142 : decode cX12_order 142 = .ok (.getfield 165, 3) := by decide +kernel
theorem dX12_order_145 : decode cX12_order 145 = .ok (.if_icmp .ge 26, 3) := by decide +kernel
theorem dX12_order_148 : decode cX12_order 148 = .ok (.aload_n 0, 1) := by decide +kernel
theorem dX12_order_149 : decode cX12_order 149 = .ok (.getfield 77, 3) := by decide +kernel
theorem dX12_order_152 : decode cX12_order 152 = .ok (.iload_n 3, 1) := by decide +kernel
theorem dX12_order_153 : decode cX12_order 153 = .ok (.aload_n 0, 1) := by decide +kernel
theorem dX12_order_154 : decode cX12_order 154 = .ok (.getfield 101, 3) := by decide +kernel
theorem dX12_order_157 : decode cX12_order 157 = .ok (.bipush 40, 2) := by decide +kernel
theorem dX12_order_159 : decode cX12_order 159 = .ok (.iload_n 1, 1) := by decide +kernel
theorem dX12_order_160 : decode cX12_order 160 = .ok (.imul, 1) := by decide +kernel
theorem dX12_order_161 : decode cX12_order 161 = .ok (.iload_n 3, 1) := by decide +kernel
theorem dX12_order_162 : decode cX12_order 162 = .ok (.iadd, 1) := by decide +kernel
theorem dX12_order_163 : decode cX12_order 163 = .ok (.iaload, 1) := by decide +kernel
theorem dX12_order_164 : decode cX12_order 164 = .ok (.iastore, 1) := by decide +kernel
theorem dX12_order_165 : decode cX12_order 165 = .ok (.iinc 3 1, 3) := by decide +kernel
theorem dX12_order_168 : decode cX12_order 168 = .ok (.goto (-28), 3) := by decide +kernel
theorem dX12_order_171 : decode cX12_order 171 = .ok (.aload_n 0, 1) := by decide +kernel
theorem dX12_order_172 : decode cX12_order 172 = .ok (.iconst 1, 1) := by decide +kernel
theorem dX12_order_173 : decode cX12_order 173 = .ok (.putfield 180, 3) := by decide +kernel
theorem dX12_order_176 : decode cX12_order 176 = .ok (.aload_n 0, 1) := by decide +kernel
theorem dX12_order_177 : decode cX12_order 177 = .ok (.getfield 165, 3) := by decide +kernel
theorem dX12_order_180 : decode cX12_order 180 = .ok (.ireturn, 1) := by decide +kernel
theorem s166_0 : aW d 166 0 [l0, .int a, l2, l3, l4] S h Q = aW d 166 1 [l0, .int a, l2, l3, l4] (.int a :: S) h Q := ax_iload_n mt166 dX12_order_0 rfl
theorem s166_1 : aW d 166 1 L S h Q = aW d 166 2 L (.int (nI 0) :: S) h Q := ax_iconst mt166 dX12_order_1 ic_0
theorem s166_2 : aW d 166 2 L S h Q = aW d 166 3 L (.int (nI 3) :: S) h Q := ax_iconst mt166 dX12_order_2 ic_3
theorem s166_3 : aW (d + 1) 166 3 L (.int x2 :: .int x1 :: .int x0 :: []) h Q = aM d 139 [.int x0, .int x1, .int x2] h (fun v h1 => aW (d + 1) 166 6 L (ab_ps v []) h1 Q) := ax_invs mt166 dX12_order_3 (by decide) ct_49277 (.inl rfl) mt139 ⟨⟨Nat.le_of_ble_eq_true rfl, Nat.le_of_ble_eq_true rfl, Nat.le_of_ble_eq_true rfl⟩, rfl, rfl⟩
theorem s166_6 : aW d 166 6 L (.int a :: S) h Q = (if a = 0 then aW d 166 9 L S h Q else aW d 166 12 L S h Q) := ax_if_ne mt166 dX12_order_6 (by decide)
theorem s166_9 : aW d 166 9 L S h Q = aW d 166 11 L (.int ((-5)) :: S) h Q := ax_bipush mt166 dX12_order_9 bp_m5
theorem s166_11 : aW d 166 11 L [.int a] h Q = Q (some (.int a)) h := ax_reti mt166 dX12_order_11 rfl
theorem s166_12 : aW d 166 12 [.ref o, l1, l2, l3, l4] S h Q = aW d 166 13 [.ref o, l1, l2, l3, l4] (.ref o :: S) h Q := ax_aload_n mt166 dX12_order_12 rfl
theorem s166_13 (hT : gT h o = some (14, 54)) : aW d 166 13 L (.ref o :: S) h Q = (isRf (gR h o 42) = true ∧ aW d 166 16 L (gR h o 42 :: S) h Q) := ax_geta mt166 dX12_order_13 (by decide) ft_49247 fk_49247 hT
theorem s166_16 : aW d 166 16 [l0, .int a, l2, l3, l4] S h Q = aW d 166 17 [l0, .int a, l2, l3, l4] (.int a :: S) h Q := ax_iload_n mt166 dX12_order_16 rfl
theorem s166_17 : aW d 166 17 L (.int a :: .ref o :: S) h Q = (inb a (aI h o) ∧ aW d 166 18 L (.int (gI h o a.toNatClampNeg) :: S) h Q) := ax_iald mt166 dX12_order_17
theorem s166_18 : aW d 166 18 L S h Q = aW d 166 19 L (.int ((-1)) :: S) h Q := ax_iconst mt166 dX12_order_18 ic_m1
theorem s166_19 : aW d 166 19 L (.int b :: .int a :: S) h Q = (if a = b then aW d 166 22 L S h Q else aW d 166 25 L S h Q) := ax_icmp_ne mt166 dX12_order_19 (by decide)
theorem s166_22 : aW d 166 22 L S h Q = aW d 166 24 L (.int ((-11)) :: S) h Q := ax_bipush mt166 dX12_order_22 bp_m11
theorem s166_24 : aW d 166 24 L [.int a] h Q = Q (some (.int a)) h := ax_reti mt166 dX12_order_24 rfl
theorem s166_25 : aW d 166 25 [.ref o, l1, l2, l3, l4] S h Q = aW d 166 26 [.ref o, l1, l2, l3, l4] (.ref o :: S) h Q := ax_aload_n mt166 dX12_order_25 rfl
theorem s166_26 (hT : gT h o = some (14, 54)) : aW d 166 26 L (.ref o :: S) h Q = (isRf (gR h o 43) = true ∧ aW d 166 29 L (gR h o 43 :: S) h Q) := ax_geta mt166 dX12_order_26 (by decide) ft_49250 fk_49250 hT
theorem s166_29 : aW d 166 29 [l0, .int a, l2, l3, l4] S h Q = aW d 166 30 [l0, .int a, l2, l3, l4] (.int a :: S) h Q := ax_iload_n mt166 dX12_order_29 rfl
theorem s166_30 : aW d 166 30 L (.int a :: .ref o :: S) h Q = (inb a (aI h o) ∧ aW d 166 31 L (.int (gI h o a.toNatClampNeg) :: S) h Q) := ax_iald mt166 dX12_order_30
theorem s166_31 : aW d 166 31 [.ref o, l1, l2, l3, l4] S h Q = aW d 166 32 [.ref o, l1, l2, l3, l4] (.ref o :: S) h Q := ax_aload_n mt166 dX12_order_31 rfl
theorem s166_32 (hT : gT h o = some (14, 54)) : aW d 166 32 L (.ref o :: S) h Q = aW d 166 35 L (.int (gI h o 4) :: S) h Q := ax_geti mt166 dX12_order_32 (by decide) ft_49317 fk_49317 hT
theorem s166_35 : aW d 166 35 L (.int b :: .int a :: S) h Q = (if a = b then aW d 166 41 L S h Q else aW d 166 38 L S h Q) := ax_icmp_eq mt166 dX12_order_35 (by decide)
theorem s166_38 : aW d 166 38 L S h Q = aW d 166 40 L (.int ((-2)) :: S) h Q := ax_bipush mt166 dX12_order_38 bp_m2
theorem s166_40 : aW d 166 40 L [.int a] h Q = Q (some (.int a)) h := ax_reti mt166 dX12_order_40 rfl
theorem s166_41 : aW d 166 41 [.ref o, l1, l2, l3, l4] S h Q = aW d 166 42 [.ref o, l1, l2, l3, l4] (.ref o :: S) h Q := ax_aload_n mt166 dX12_order_41 rfl
theorem s166_42 (hT : gT h o = some (14, 54)) : aW d 166 42 L (.ref o :: S) h Q = aW d 166 45 L (.int (gI h o 32) :: S) h Q := ax_geti mt166 dX12_order_42 (by decide) ft_49342 fk_49342 hT
theorem s166_45 : aW d 166 45 L (.int a :: S) h Q = (if 0 < a then aW d 166 48 L S h Q else aW d 166 51 L S h Q) := ax_if_le mt166 dX12_order_45 (by decide)
theorem s166_48 : aW d 166 48 L S h Q = aW d 166 50 L (.int ((-3)) :: S) h Q := ax_bipush mt166 dX12_order_48 bp_m3
theorem s166_50 : aW d 166 50 L [.int a] h Q = Q (some (.int a)) h := ax_reti mt166 dX12_order_50 rfl
theorem s166_51 : aW d 166 51 L S h Q = aW d 166 52 L (.int (nI 0) :: S) h Q := ax_iconst mt166 dX12_order_51 ic_0
theorem s166_52 : aW d 166 52 [l0, l1, l2, l3, l4] (.int a :: S) h Q = aW d 166 53 [l0, l1, .int a, l3, l4] S h Q := ax_istore_n mt166 dX12_order_52 (Nat.le_of_ble_eq_true rfl) rfl
theorem s166_53 : aW d 166 53 L S h Q = aW d 166 54 L (.int (nI 0) :: S) h Q := ax_iconst mt166 dX12_order_53 ic_0
theorem s166_54 : aW d 166 54 [l0, l1, l2, l3, l4] (.int a :: S) h Q = aW d 166 55 [l0, l1, l2, .int a, l4] S h Q := ax_istore_n mt166 dX12_order_54 (Nat.le_of_ble_eq_true rfl) rfl
theorem s166_55 : aW d 166 55 [l0, l1, l2, .int a, l4] S h Q = aW d 166 56 [l0, l1, l2, .int a, l4] (.int a :: S) h Q := ax_iload_n mt166 dX12_order_55 rfl
theorem s166_56 : aW d 166 56 [.ref o, l1, l2, l3, l4] S h Q = aW d 166 57 [.ref o, l1, l2, l3, l4] (.ref o :: S) h Q := ax_aload_n mt166 dX12_order_56 rfl
theorem s166_57 (hT : gT h o = some (14, 54)) : aW d 166 57 L (.ref o :: S) h Q = aW d 166 60 L (.int (gI h o 4) :: S) h Q := ax_geti mt166 dX12_order_57 (by decide) ft_49317 fk_49317 hT
theorem s166_60 : aW d 166 60 L (.int b :: .int a :: S) h Q = (if a < b then aW d 166 63 L S h Q else aW d 166 138 L S h Q) := ax_icmp_ge mt166 dX12_order_60 (by decide)
theorem s166_63 : aW d 166 63 [.ref o, l1, l2, l3, l4] S h Q = aW d 166 64 [.ref o, l1, l2, l3, l4] (.ref o :: S) h Q := ax_aload_n mt166 dX12_order_63 rfl
theorem s166_64 (hT : gT h o = some (14, 54)) : aW d 166 64 L (.ref o :: S) h Q = (isRf (gR h o 44) = true ∧ aW d 166 67 L (gR h o 44 :: S) h Q) := ax_geta mt166 dX12_order_64 (by decide) ft_49253 fk_49253 hT
theorem s166_67 : aW d 166 67 L S h Q = aW d 166 69 L (.int (nI 40) :: S) h Q := ax_bipush mt166 dX12_order_67 bp_40
theorem s166_69 : aW d 166 69 [l0, .int a, l2, l3, l4] S h Q = aW d 166 70 [l0, .int a, l2, l3, l4] (.int a :: S) h Q := ax_iload_n mt166 dX12_order_69 rfl
theorem s166_70 : aW d 166 70 L (.int b :: .int a :: S) h Q = aW d 166 71 L (.int (a * b) :: S) h Q := ax_imul mt166 dX12_order_70
theorem s166_71 : aW d 166 71 [l0, l1, l2, .int a, l4] S h Q = aW d 166 72 [l0, l1, l2, .int a, l4] (.int a :: S) h Q := ax_iload_n mt166 dX12_order_71 rfl
theorem s166_72 : aW d 166 72 L (.int b :: .int a :: S) h Q = aW d 166 73 L (.int (a + b) :: S) h Q := ax_iadd mt166 dX12_order_72
theorem s166_73 : aW d 166 73 L (.int a :: .ref o :: S) h Q = (inb a (aI h o) ∧ aW d 166 74 L (.int (gI h o a.toNatClampNeg) :: S) h Q) := ax_iald mt166 dX12_order_73
theorem s166_74 : aW d 166 74 [l0, l1, l2, l3, l4] (.int a :: S) h Q = aW d 166 76 [l0, l1, l2, l3, .int a] S h Q := ax_istore mt166 dX12_order_74 (Nat.le_of_ble_eq_true rfl) rfl
theorem s166_76 : aW d 166 76 [l0, l1, l2, l3, .int a] S h Q = aW d 166 78 [l0, l1, l2, l3, .int a] (.int a :: S) h Q := ax_iload mt166 dX12_order_76 rfl
theorem s166_78 : aW d 166 78 L S h Q = aW d 166 79 L (.int (nI 0) :: S) h Q := ax_iconst mt166 dX12_order_78 ic_0
theorem s166_79 : aW d 166 79 [.ref o, l1, l2, l3, l4] S h Q = aW d 166 80 [.ref o, l1, l2, l3, l4] (.ref o :: S) h Q := ax_aload_n mt166 dX12_order_79 rfl
theorem s166_80 (hT : gT h o = some (14, 54)) : aW d 166 80 L (.ref o :: S) h Q = aW d 166 83 L (.int (gI h o 4) :: S) h Q := ax_geti mt166 dX12_order_80 (by decide) ft_49317 fk_49317 hT
theorem s166_83 : aW d 166 83 L S h Q = aW d 166 84 L (.int (nI 1) :: S) h Q := ax_iconst mt166 dX12_order_83 ic_1
theorem s166_84 : aW d 166 84 L (.int b :: .int a :: S) h Q = aW d 166 85 L (.int (a - b) :: S) h Q := ax_isub mt166 dX12_order_84
theorem s166_85 : aW (d + 1) 166 85 L (.int x2 :: .int x1 :: .int x0 :: []) h Q = aM d 139 [.int x0, .int x1, .int x2] h (fun v h1 => aW (d + 1) 166 88 L (ab_ps v []) h1 Q) := ax_invs mt166 dX12_order_85 (by decide) ct_49277 (.inl rfl) mt139 ⟨⟨Nat.le_of_ble_eq_true rfl, Nat.le_of_ble_eq_true rfl, Nat.le_of_ble_eq_true rfl⟩, rfl, rfl⟩
theorem s166_88 : aW d 166 88 L (.int a :: S) h Q = (if a = 0 then aW d 166 120 L S h Q else aW d 166 91 L S h Q) := ax_if_eq mt166 dX12_order_88 (by decide)
theorem s166_91 : aW d 166 91 [.ref o, l1, l2, l3, l4] S h Q = aW d 166 92 [.ref o, l1, l2, l3, l4] (.ref o :: S) h Q := ax_aload_n mt166 dX12_order_91 rfl
theorem s166_92 : aW d 166 92 [l0, l1, l2, l3, .int a] S h Q = aW d 166 94 [l0, l1, l2, l3, .int a] (.int a :: S) h Q := ax_iload mt166 dX12_order_92 rfl
theorem s166_94 : aW d 166 94 L S h Q = aW d 166 95 L (.int (nI 0) :: S) h Q := ax_iconst mt166 dX12_order_94 ic_0
theorem s166_95 : aW d 166 95 [.ref o, l1, l2, l3, l4] S h Q = aW d 166 96 [.ref o, l1, l2, l3, l4] (.ref o :: S) h Q := ax_aload_n mt166 dX12_order_95 rfl
theorem s166_96 (hT : gT h o = some (14, 54)) : aW d 166 96 L (.ref o :: S) h Q = aW d 166 99 L (.int (gI h o 4) :: S) h Q := ax_geti mt166 dX12_order_96 (by decide) ft_49317 fk_49317 hT
theorem s166_99 : aW d 166 99 L S h Q = aW d 166 100 L (.int (nI 1) :: S) h Q := ax_iconst mt166 dX12_order_99 ic_1
theorem s166_100 : aW d 166 100 L (.int b :: .int a :: S) h Q = aW d 166 101 L (.int (a - b) :: S) h Q := ax_isub mt166 dX12_order_100
theorem s166_101 : aW (d + 1) 166 101 L (.int x2 :: .int x1 :: .int x0 :: [.ref q0]) h Q = aM d 139 [.int x0, .int x1, .int x2] h (fun v h1 => aW (d + 1) 166 104 L (ab_ps v [.ref q0]) h1 Q) := ax_invs mt166 dX12_order_101 (by decide) ct_49277 (.inl rfl) mt139 ⟨⟨Nat.le_of_ble_eq_true rfl, Nat.le_of_ble_eq_true rfl, Nat.le_of_ble_eq_true rfl⟩, rfl, rfl⟩
theorem s166_104 : aW d 166 104 L (.int a :: S) h Q = (if a = 0 then aW d 166 112 L S h Q else aW d 166 107 L S h Q) := ax_if_eq mt166 dX12_order_104 (by decide)
theorem s166_107 : aW d 166 107 [l0, l1, l2, l3, .int a] S h Q = aW d 166 109 [l0, l1, l2, l3, .int a] (.int a :: S) h Q := ax_iload mt166 dX12_order_107 rfl
theorem s166_109 : aW d 166 109 L S h Q = aW d 166 113 L S h Q := ax_goto mt166 dX12_order_109 (by decide)
theorem s166_113 : aW d 166 113 [l0, l1, .int a, l3, l4] S h Q = aW d 166 114 [l0, l1, .int a, l3, l4] (.int a :: S) h Q := ax_iload_n mt166 dX12_order_113 rfl
theorem s166_114 (hT : gT h o = some (14, 54)) : aW (d + 1) 166 114 L (.int x1 :: .int x0 :: .ref o :: []) h Q = aM d 162 (.ref o :: [.int x0, .int x1]) h (fun v h1 => aW (d + 1) 166 117 L (ab_ps v []) h1 Q) := ax_invv mt166 dX12_order_114 (by decide) ct_49363 (.inl rfl) mt162 ⟨⟨Nat.le_of_ble_eq_true rfl, Nat.le_of_ble_eq_true rfl, Nat.le_of_ble_eq_true rfl⟩, rfl, rfl, rfl⟩ hT
theorem s166_117 : aW d 166 117 L (.int a :: S) h Q = (if a = 0 then aW d 166 120 L S h Q else aW d 166 125 L S h Q) := ax_if_ne mt166 dX12_order_117 (by decide)
theorem s166_125 : aW d 166 125 [l0, l1, .int a, l3, l4] S h Q = aW d 166 126 [l0, l1, .int a, l3, l4] (.int a :: S) h Q := ax_iload_n mt166 dX12_order_125 rfl
theorem s166_126 : aW d 166 126 L S h Q = aW d 166 127 L (.int (nI 1) :: S) h Q := ax_iconst mt166 dX12_order_126 ic_1
theorem s166_127 : aW d 166 127 [l0, l1, l2, l3, .int a] S h Q = aW d 166 129 [l0, l1, l2, l3, .int a] (.int a :: S) h Q := ax_iload mt166 dX12_order_127 rfl
theorem s166_129 : aW d 166 129 L (.int b :: .int a :: S) h Q = aW d 166 130 L (.int (a <<< (b &&& 31)) :: S) h Q := ax_ishl mt166 dX12_order_129
theorem s166_130 : aW d 166 130 L (.int b :: .int a :: S) h Q = aW d 166 131 L (.int (a ||| b) :: S) h Q := ax_ior mt166 dX12_order_130
theorem s166_131 : aW d 166 131 [l0, l1, l2, l3, l4] (.int a :: S) h Q = aW d 166 132 [l0, l1, .int a, l3, l4] S h Q := ax_istore_n mt166 dX12_order_131 (Nat.le_of_ble_eq_true rfl) rfl
theorem s166_132 : aW d 166 132 [l0, l1, l2, .int a, l4] S h Q = aW d 166 135 [l0, l1, l2, .int (a + nI 1), l4] S h Q := ax_iinc mt166 dX12_order_132 rfl ic_1 rfl
theorem s166_135 : aW d 166 135 L S h Q = aW d 166 55 L S h Q := ax_goto mt166 dX12_order_135 (by decide)
theorem s166_112 : aW d 166 112 L S h Q = aW d 166 113 L (.int (nI 0) :: S) h Q := ax_iconst mt166 dX12_order_112 ic_0
theorem s166_120 : aW d 166 120 L S h Q = aW d 166 122 L (.int ((-100)) :: S) h Q := ax_bipush mt166 dX12_order_120 bp_m100
theorem s166_122 : aW d 166 122 [l0, l1, l2, .int a, l4] S h Q = aW d 166 123 [l0, l1, l2, .int a, l4] (.int a :: S) h Q := ax_iload_n mt166 dX12_order_122 rfl
theorem s166_123 : aW d 166 123 L (.int b :: .int a :: S) h Q = aW d 166 124 L (.int (a - b) :: S) h Q := ax_isub mt166 dX12_order_123
theorem s166_124 : aW d 166 124 L [.int a] h Q = Q (some (.int a)) h := ax_reti mt166 dX12_order_124 rfl
theorem s166_138 : aW d 166 138 L S h Q = aW d 166 139 L (.int (nI 0) :: S) h Q := ax_iconst mt166 dX12_order_138 ic_0
theorem s166_139 : aW d 166 139 [l0, l1, l2, l3, l4] (.int a :: S) h Q = aW d 166 140 [l0, l1, l2, .int a, l4] S h Q := ax_istore_n mt166 dX12_order_139 (Nat.le_of_ble_eq_true rfl) rfl
theorem s166_140 : aW d 166 140 [l0, l1, l2, .int a, l4] S h Q = aW d 166 141 [l0, l1, l2, .int a, l4] (.int a :: S) h Q := ax_iload_n mt166 dX12_order_140 rfl
theorem s166_141 : aW d 166 141 [.ref o, l1, l2, l3, l4] S h Q = aW d 166 142 [.ref o, l1, l2, l3, l4] (.ref o :: S) h Q := ax_aload_n mt166 dX12_order_141 rfl
theorem s166_142 (hT : gT h o = some (14, 54)) : aW d 166 142 L (.ref o :: S) h Q = aW d 166 145 L (.int (gI h o 4) :: S) h Q := ax_geti mt166 dX12_order_142 (by decide) ft_49317 fk_49317 hT
theorem s166_145 : aW d 166 145 L (.int b :: .int a :: S) h Q = (if a < b then aW d 166 148 L S h Q else aW d 166 171 L S h Q) := ax_icmp_ge mt166 dX12_order_145 (by decide)
theorem s166_148 : aW d 166 148 [.ref o, l1, l2, l3, l4] S h Q = aW d 166 149 [.ref o, l1, l2, l3, l4] (.ref o :: S) h Q := ax_aload_n mt166 dX12_order_148 rfl
theorem s166_149 (hT : gT h o = some (14, 54)) : aW d 166 149 L (.ref o :: S) h Q = (isRf (gR h o 27) = true ∧ aW d 166 152 L (gR h o 27 :: S) h Q) := ax_geta mt166 dX12_order_149 (by decide) ft_49229 fk_49229 hT
theorem s166_152 : aW d 166 152 [l0, l1, l2, .int a, l4] S h Q = aW d 166 153 [l0, l1, l2, .int a, l4] (.int a :: S) h Q := ax_iload_n mt166 dX12_order_152 rfl
theorem s166_153 : aW d 166 153 [.ref o, l1, l2, l3, l4] S h Q = aW d 166 154 [.ref o, l1, l2, l3, l4] (.ref o :: S) h Q := ax_aload_n mt166 dX12_order_153 rfl
theorem s166_154 (hT : gT h o = some (14, 54)) : aW d 166 154 L (.ref o :: S) h Q = (isRf (gR h o 44) = true ∧ aW d 166 157 L (gR h o 44 :: S) h Q) := ax_geta mt166 dX12_order_154 (by decide) ft_49253 fk_49253 hT
theorem s166_157 : aW d 166 157 L S h Q = aW d 166 159 L (.int (nI 40) :: S) h Q := ax_bipush mt166 dX12_order_157 bp_40
theorem s166_159 : aW d 166 159 [l0, .int a, l2, l3, l4] S h Q = aW d 166 160 [l0, .int a, l2, l3, l4] (.int a :: S) h Q := ax_iload_n mt166 dX12_order_159 rfl
theorem s166_160 : aW d 166 160 L (.int b :: .int a :: S) h Q = aW d 166 161 L (.int (a * b) :: S) h Q := ax_imul mt166 dX12_order_160
theorem s166_161 : aW d 166 161 [l0, l1, l2, .int a, l4] S h Q = aW d 166 162 [l0, l1, l2, .int a, l4] (.int a :: S) h Q := ax_iload_n mt166 dX12_order_161 rfl
theorem s166_162 : aW d 166 162 L (.int b :: .int a :: S) h Q = aW d 166 163 L (.int (a + b) :: S) h Q := ax_iadd mt166 dX12_order_162
theorem s166_163 : aW d 166 163 L (.int a :: .ref o :: S) h Q = (inb a (aI h o) ∧ aW d 166 164 L (.int (gI h o a.toNatClampNeg) :: S) h Q) := ax_iald mt166 dX12_order_163
theorem s166_164 : aW d 166 164 L (.int b :: .int a :: .ref o :: S) h Q = (inb a (aJ h o) ∧ aW d 166 165 L S (pI h o a.toNatClampNeg b) Q) := ax_iast mt166 dX12_order_164
theorem s166_165 : aW d 166 165 [l0, l1, l2, .int a, l4] S h Q = aW d 166 168 [l0, l1, l2, .int (a + nI 1), l4] S h Q := ax_iinc mt166 dX12_order_165 rfl ic_1 rfl
theorem s166_168 : aW d 166 168 L S h Q = aW d 166 140 L S h Q := ax_goto mt166 dX12_order_168 (by decide)
theorem s166_171 : aW d 166 171 [.ref o, l1, l2, l3, l4] S h Q = aW d 166 172 [.ref o, l1, l2, l3, l4] (.ref o :: S) h Q := ax_aload_n mt166 dX12_order_171 rfl
theorem s166_172 : aW d 166 172 L S h Q = aW d 166 173 L (.int (nI 1) :: S) h Q := ax_iconst mt166 dX12_order_172 ic_1
theorem s166_173 (hT : gT h o = some (14, 54)) : aW d 166 173 L (.int a :: .ref o :: S) h Q = (b01 a ∧ aW d 166 176 L S (pI h o 26 a) Q) := ax_putz mt166 dX12_order_173 (by decide) ft_49332 (fun q => fn_49332 q.1) fp_49332 hT
theorem s166_176 : aW d 166 176 [.ref o, l1, l2, l3, l4] S h Q = aW d 166 177 [.ref o, l1, l2, l3, l4] (.ref o :: S) h Q := ax_aload_n mt166 dX12_order_176 rfl
theorem s166_177 (hT : gT h o = some (14, 54)) : aW d 166 177 L (.ref o :: S) h Q = aW d 166 180 L (.int (gI h o 4) :: S) h Q := ax_geti mt166 dX12_order_177 (by decide) ft_49317 fk_49317 hT
theorem s166_180 : aW d 166 180 L [.int a] h Q = Q (some (.int a)) h := ax_reti mt166 dX12_order_180 rfl
-- method 167: BufferRoomModel.isPlace(I)Z
theorem dX12_isPlace_0 : decode cX12_isPlace 0 = .ok (.iload_n 1, 1) := by decide +kernel
theorem dX12_isPlace_1 : decode cX12_isPlace 1 = .ok (.iconst 0, 1) := by decide +kernel
theorem dX12_isPlace_2 : decode cX12_isPlace 2 = .ok (.aload_n 0, 1) := by decide +kernel
theorem dX12_isPlace_3 : decode cX12_isPlace 3 = .ok (.getfield 165, 3) := by decide +kernel
theorem dX12_isPlace_6 : decode cX12_isPlace 6 = .ok (.iconst 1, 1) := by decide +kernel
theorem dX12_isPlace_7 : decode cX12_isPlace 7 = .ok (.isub, 1) := by decide +kernel
theorem dX12_isPlace_8 : decode cX12_isPlace 8 = .ok (.invokestatic 125, 3) := by decide +kernel
theorem dX12_isPlace_11 : decode cX12_isPlace 11 = .ok (.ireturn, 1) := by decide +kernel
theorem s167_0 : aW d 167 0 [l0, .int a] S h Q = aW d 167 1 [l0, .int a] (.int a :: S) h Q := ax_iload_n mt167 dX12_isPlace_0 rfl
theorem s167_1 : aW d 167 1 L S h Q = aW d 167 2 L (.int (nI 0) :: S) h Q := ax_iconst mt167 dX12_isPlace_1 ic_0
theorem s167_2 : aW d 167 2 [.ref o, l1] S h Q = aW d 167 3 [.ref o, l1] (.ref o :: S) h Q := ax_aload_n mt167 dX12_isPlace_2 rfl
theorem s167_3 (hT : gT h o = some (14, 54)) : aW d 167 3 L (.ref o :: S) h Q = aW d 167 6 L (.int (gI h o 4) :: S) h Q := ax_geti mt167 dX12_isPlace_3 (by decide) ft_49317 fk_49317 hT
theorem s167_6 : aW d 167 6 L S h Q = aW d 167 7 L (.int (nI 1) :: S) h Q := ax_iconst mt167 dX12_isPlace_6 ic_1
theorem s167_7 : aW d 167 7 L (.int b :: .int a :: S) h Q = aW d 167 8 L (.int (a - b) :: S) h Q := ax_isub mt167 dX12_isPlace_7
theorem s167_8 : aW (d + 1) 167 8 L (.int x2 :: .int x1 :: .int x0 :: []) h Q = aM d 139 [.int x0, .int x1, .int x2] h (fun v h1 => aW (d + 1) 167 11 L (ab_ps v []) h1 Q) := ax_invs mt167 dX12_isPlace_8 (by decide) ct_49277 (.inl rfl) mt139 ⟨⟨Nat.le_of_ble_eq_true rfl, Nat.le_of_ble_eq_true rfl, Nat.le_of_ble_eq_true rfl⟩, rfl, rfl⟩
theorem s167_11 : aW d 167 11 L [.int a] h Q = (b01 a ∧ Q (some (.int a)) h) := ax_retz mt167 dX12_isPlace_11 rfl
-- method 168: BufferRoomModel.orderTold(I)I
theorem dX12_orderTold_0 : decode cX12_orderTold 0 = .ok (.aload_n 0, 1) := by decide +kernel
theorem dX12_orderTold_1 : decode cX12_orderTold 1 = .ok (.iload_n 1, 1) := by decide +kernel
theorem dX12_orderTold_2 : decode cX12_orderTold 2 = .ok (.invokevirtual 222, 3) := by decide +kernel
theorem dX12_orderTold_5 : decode cX12_orderTold 5 = .ok (.ifCond .ne 8, 3) := by decide +kernel
theorem dX12_orderTold_8 : decode cX12_orderTold 8 = .ok (.bipush (-5), 2) := by decide +kernel
theorem dX12_orderTold_10 : decode cX12_orderTold 10 = .ok (.goto 21, 3) := by decide +kernel
theorem dX12_orderTold_13 : decode cX12_orderTold 13 = .ok (.aload_n 0, 1) := by decide +kernel
theorem dX12_orderTold_14 : decode cX12_orderTold 14 = .ok (.invokevirtual 225, 3) := by decide +kernel
theorem dX12_orderTold_17 : decode cX12_orderTold 17 = .ok (.ifCond .eq 12, 3) := by decide +kernel
theorem dX12_orderTold_20 : decode cX12_orderTold 20 = .ok (.aload_n 0, 1) := by decide +kernel
theorem dX12_orderTold_21 : decode cX12_orderTold 21 = .ok (.getfield 104, 3) := by decide +kernel
theorem dX12_orderTold_24 : decode cX12_orderTold 24 = .ok (.iload_n 1, 1) := by decide +kernel
theorem dX12_orderTold_25 : decode cX12_orderTold 25 = .ok (.iaload, 1) := by decide +kernel
theorem dX12_orderTold_26 : decode cX12_orderTold 26 = .ok (.goto 5, 3) := by decide +kernel
theorem dX12_orderTold_29 : decode cX12_orderTold 29 = .ok (.bipush (-3), 2) := by decide +kernel
theorem dX12_orderTold_31 : decode cX12_orderTold 31 = .ok (.ireturn, 1) := by decide +kernel
theorem s168_0 : aW d 168 0 [.ref o, l1] S h Q = aW d 168 1 [.ref o, l1] (.ref o :: S) h Q := ax_aload_n mt168 dX12_orderTold_0 rfl
theorem s168_1 : aW d 168 1 [l0, .int a] S h Q = aW d 168 2 [l0, .int a] (.int a :: S) h Q := ax_iload_n mt168 dX12_orderTold_1 rfl
theorem s168_2 (hT : gT h o = some (14, 54)) : aW (d + 1) 168 2 L (.int x0 :: .ref o :: []) h Q = aM d 167 (.ref o :: [.int x0]) h (fun v h1 => aW (d + 1) 168 5 L (ab_ps v []) h1 Q) := ax_invv mt168 dX12_orderTold_2 (by decide) ct_49374 (.inl rfl) mt167 ⟨⟨Nat.le_of_ble_eq_true rfl, Nat.le_of_ble_eq_true rfl, Nat.le_of_ble_eq_true rfl⟩, rfl, rfl, rfl⟩ hT
theorem s168_5 : aW d 168 5 L (.int a :: S) h Q = (if a = 0 then aW d 168 8 L S h Q else aW d 168 13 L S h Q) := ax_if_ne mt168 dX12_orderTold_5 (by decide)
theorem s168_8 : aW d 168 8 L S h Q = aW d 168 10 L (.int ((-5)) :: S) h Q := ax_bipush mt168 dX12_orderTold_8 bp_m5
theorem s168_10 : aW d 168 10 L S h Q = aW d 168 31 L S h Q := ax_goto mt168 dX12_orderTold_10 (by decide)
theorem s168_31 : aW d 168 31 L [.int a] h Q = Q (some (.int a)) h := ax_reti mt168 dX12_orderTold_31 rfl
theorem s168_13 : aW d 168 13 [.ref o, l1] S h Q = aW d 168 14 [.ref o, l1] (.ref o :: S) h Q := ax_aload_n mt168 dX12_orderTold_13 rfl
theorem s168_14 (hT : gT h o = some (14, 54)) : aW (d + 1) 168 14 L (.ref o :: []) h Q = aM d 163 (.ref o :: []) h (fun v h1 => aW (d + 1) 168 17 L (ab_ps v []) h1 Q) := ax_invv mt168 dX12_orderTold_14 (by decide) ct_49377 (.inl rfl) mt163 ⟨⟨Nat.le_of_ble_eq_true rfl, Nat.le_of_ble_eq_true rfl, Nat.le_of_ble_eq_true rfl⟩, rfl, rfl, rfl⟩ hT
theorem s168_17 : aW d 168 17 L (.int a :: S) h Q = (if a = 0 then aW d 168 29 L S h Q else aW d 168 20 L S h Q) := ax_if_eq mt168 dX12_orderTold_17 (by decide)
theorem s168_20 : aW d 168 20 [.ref o, l1] S h Q = aW d 168 21 [.ref o, l1] (.ref o :: S) h Q := ax_aload_n mt168 dX12_orderTold_20 rfl
theorem s168_21 (hT : gT h o = some (14, 54)) : aW d 168 21 L (.ref o :: S) h Q = (isRf (gR h o 46) = true ∧ aW d 168 24 L (gR h o 46 :: S) h Q) := ax_geta mt168 dX12_orderTold_21 (by decide) ft_49256 fk_49256 hT
theorem s168_24 : aW d 168 24 [l0, .int a] S h Q = aW d 168 25 [l0, .int a] (.int a :: S) h Q := ax_iload_n mt168 dX12_orderTold_24 rfl
theorem s168_25 : aW d 168 25 L (.int a :: .ref o :: S) h Q = (inb a (aI h o) ∧ aW d 168 26 L (.int (gI h o a.toNatClampNeg) :: S) h Q) := ax_iald mt168 dX12_orderTold_25
theorem s168_26 : aW d 168 26 L S h Q = aW d 168 31 L S h Q := ax_goto mt168 dX12_orderTold_26 (by decide)
theorem s168_29 : aW d 168 29 L S h Q = aW d 168 31 L (.int ((-3)) :: S) h Q := ax_bipush mt168 dX12_orderTold_29 bp_m3
-- method 169: BufferRoomModel.overAt(I)I
theorem dX12_overAt_0 : decode cX12_overAt 0 = .ok (.aload_n 0, 1) := by decide +kernel
theorem dX12_overAt_1 : decode cX12_overAt 1 = .ok (.getfield 104, 3) := by decide +kernel
theorem dX12_overAt_4 : decode cX12_overAt 4 = .ok (.iload_n 1, 1) := by decide +kernel
theorem dX12_overAt_5 : decode cX12_overAt 5 = .ok (.iaload, 1) := by decide +kernel
theorem dX12_overAt_6 : decode cX12_overAt 6 = .ok (.istore_n 2, 1) := by decide +kernel
theorem dX12_overAt_7 : decode cX12_overAt 7 = .ok (.iconst (-1), 1) := by decide +kernel
theorem dX12_overAt_8 : decode cX12_overAt 8 = .ok (.istore_n 3, 1) := by decide +kernel
theorem dX12_overAt_9 : decode cX12_overAt 9 = .ok (.iconst 0, 1) := by decide +kernel
theorem dX12_overAt_10 : decode cX12_overAt 10 = .ok (.istore 4, 2) := by decide +kernel
theorem dX12_overAt_12 : decode cX12_overAt 12 = .ok (.iload 4, 2) := by decide +kernel
theorem dX12_overAt_14 : decode cX12_overAt 14 = .ok (.bipush 12, 2) := by decide +kernel
theorem dX12_overAt_16 : decode cX12_overAt 16 = .ok (.if_icmp .ge 82, 3) := by decide +kernel
theorem dX12_overAt_19 : decode cX12_overAt 19 = .ok (.aload_n 0, 1) := by decide +kernel
theorem dX12_overAt_20 : decode cX12_overAt 20 = .ok (.getfield 32, 3) := by decide +kernel
theorem dX12_overAt_23 : decode cX12_overAt 23 = .ok (.iload_n 2, 1) := by decide +kernel
theorem dX12_overAt_24 : decode cX12_overAt 24 = .ok (.iaload, 1) := by decide +kernel
theorem dX12_overAt_25 : decode cX12_overAt 25 = .ok (.invokestatic 201, 3) := by decide +kernel
theorem dX12_overAt_28 : decode cX12_overAt 28 = .ok (.ifCond .eq 64, 3) := by decide +kernel
theorem dX12_overAt_31 : decode cX12_overAt 31 = .ok (.aload_n 0, 1) := by decide +kernel
theorem dX12_overAt_32 : decode cX12_overAt 32 = .ok (.iload_n 2, 1) := by decide +kernel
theorem dX12_overAt_33 : decode cX12_overAt 33 = .ok (.iload 4, 2) := by decide +kernel
theorem dX12_overAt_35 : decode cX12_overAt 35 = .ok (.invokevirtual 219, 3) := by decide +kernel
theorem dX12_overAt_38 : decode cX12_overAt 38 = .ok (.ifCond .eq 54, 3) := by decide +kernel
theorem dX12_overAt_41 : decode cX12_overAt 41 = .ok (.aload_n 0, 1) := by decide +kernel
theorem dX12_overAt_42 : decode cX12_overAt 42 = .ok (.getfield 110, 3) := by decide +kernel
theorem dX12_overAt_45 : decode cX12_overAt 45 = .ok (.iload 4, 2) := by decide +kernel
theorem dX12_overAt_47 : decode cX12_overAt 47 = .ok (.iaload, 1) := by decide +kernel
theorem dX12_overAt_48 : decode cX12_overAt 48 = .ok (.iload_n 1, 1) := by decide +kernel
theorem dX12_overAt_49 : decode cX12_overAt 49 = .ok (.if_icmp .ne 43, 3) := by decide +kernel
theorem dX12_overAt_52 : decode cX12_overAt 52 = .ok (.aload_n 0, 1) := by decide +kernel
theorem dX12_overAt_53 : decode cX12_overAt 53 = .ok (.getfield 29, 3) := by decide +kernel
theorem dX12_overAt_56 : decode cX12_overAt 56 = .ok (.iload 4, 2) := by decide +kernel
theorem dX12_overAt_58 : decode cX12_overAt 58 = .ok (.baload, 1) := by decide +kernel
theorem dX12_overAt_59 : decode cX12_overAt 59 = .ok (.ifCond .ne 33, 3) := by decide +kernel
theorem dX12_overAt_62 : decode cX12_overAt 62 = .ok (.iload_n 3, 1) := by decide +kernel
theorem dX12_overAt_63 : decode cX12_overAt 63 = .ok (.iconst (-1), 1) := by decide +kernel
theorem dX12_overAt_64 : decode cX12_overAt 64 = .ok (.if_icmp .eq 25, 3) := by decide +kernel
theorem dX12_overAt_67 : decode cX12_overAt 67 = .ok (.aload_n 0, 1) := by decide +kernel
theorem dX12_overAt_68 : decode cX12_overAt 68 = .ok (.iload 4, 2) := by decide +kernel
theorem dX12_overAt_70 : decode cX12_overAt 70 = .ok (.invokevirtual 204, 3) := by decide +kernel
theorem dX12_overAt_73 : decode cX12_overAt 73 = .ok (.aload_n 0, 1) := by decide +kernel
theorem dX12_overAt_74 : decode cX12_overAt 74 = .ok (.iload_n 3, 1) := by decide +kernel
theorem dX12_overAt_75 : decode cX12_overAt 75 = .ok (.ifCond .ge 7, 3) := by decide +kernel
theorem dX12_overAt_78 : decode cX12_overAt 78 = .ok (.iconst 0, 1) := by decide +kernel
theorem dX12_overAt_79 : decode cX12_overAt 79 = .ok (.goto 4, 3) := by decide +kernel
theorem dX12_overAt_82 : decode cX12_overAt 82 = .ok (.iload_n 3, 1) := by decide +kernel
theorem dX12_overAt_83 : decode cX12_overAt 83 = .ok (.invokevirtual 204, 3) := by decide +kernel
theorem dX12_overAt_86 : decode cX12_overAt 86 = .ok (.if_icmp .le 6, 3) := by decide +kernel
theorem dX12_overAt_89 : decode cX12_overAt 89 = .ok (.iload 4, 2) := by decide +kernel
theorem dX12_overAt_91 : decode cX12_overAt 91 = .ok (.istore_n 3, 1) := by decide +kernel
theorem dX12_overAt_92 : decode cX12_overAt 92 = .ok (.iinc 4 1, 3) := by decide +kernel
theorem dX12_overAt_95 : decode cX12_overAt 95 = .ok (.goto (-83), 3) := by decide +kernel
theorem dX12_overAt_98 : decode cX12_overAt 98 = .ok (.iload_n 3, 1) := by decide +kernel
theorem dX12_overAt_99 : decode cX12_overAt 99 = .ok (.ireturn, 1) := by decide +kernel
theorem s169_0 : aW d 169 0 [.ref o, l1, l2, l3, l4] S h Q = aW d 169 1 [.ref o, l1, l2, l3, l4] (.ref o :: S) h Q := ax_aload_n mt169 dX12_overAt_0 rfl
theorem s169_1 (hT : gT h o = some (14, 54)) : aW d 169 1 L (.ref o :: S) h Q = (isRf (gR h o 46) = true ∧ aW d 169 4 L (gR h o 46 :: S) h Q) := ax_geta mt169 dX12_overAt_1 (by decide) ft_49256 fk_49256 hT
theorem s169_4 : aW d 169 4 [l0, .int a, l2, l3, l4] S h Q = aW d 169 5 [l0, .int a, l2, l3, l4] (.int a :: S) h Q := ax_iload_n mt169 dX12_overAt_4 rfl
theorem s169_5 : aW d 169 5 L (.int a :: .ref o :: S) h Q = (inb a (aI h o) ∧ aW d 169 6 L (.int (gI h o a.toNatClampNeg) :: S) h Q) := ax_iald mt169 dX12_overAt_5
theorem s169_6 : aW d 169 6 [l0, l1, l2, l3, l4] (.int a :: S) h Q = aW d 169 7 [l0, l1, .int a, l3, l4] S h Q := ax_istore_n mt169 dX12_overAt_6 (Nat.le_of_ble_eq_true rfl) rfl
theorem s169_7 : aW d 169 7 L S h Q = aW d 169 8 L (.int ((-1)) :: S) h Q := ax_iconst mt169 dX12_overAt_7 ic_m1
theorem s169_8 : aW d 169 8 [l0, l1, l2, l3, l4] (.int a :: S) h Q = aW d 169 9 [l0, l1, l2, .int a, l4] S h Q := ax_istore_n mt169 dX12_overAt_8 (Nat.le_of_ble_eq_true rfl) rfl
theorem s169_9 : aW d 169 9 L S h Q = aW d 169 10 L (.int (nI 0) :: S) h Q := ax_iconst mt169 dX12_overAt_9 ic_0
theorem s169_10 : aW d 169 10 [l0, l1, l2, l3, l4] (.int a :: S) h Q = aW d 169 12 [l0, l1, l2, l3, .int a] S h Q := ax_istore mt169 dX12_overAt_10 (Nat.le_of_ble_eq_true rfl) rfl
theorem s169_12 : aW d 169 12 [l0, l1, l2, l3, .int a] S h Q = aW d 169 14 [l0, l1, l2, l3, .int a] (.int a :: S) h Q := ax_iload mt169 dX12_overAt_12 rfl
theorem s169_14 : aW d 169 14 L S h Q = aW d 169 16 L (.int (nI 12) :: S) h Q := ax_bipush mt169 dX12_overAt_14 bp_12
theorem s169_16 : aW d 169 16 L (.int b :: .int a :: S) h Q = (if a < b then aW d 169 19 L S h Q else aW d 169 98 L S h Q) := ax_icmp_ge mt169 dX12_overAt_16 (by decide)
theorem s169_19 : aW d 169 19 [.ref o, l1, l2, l3, l4] S h Q = aW d 169 20 [.ref o, l1, l2, l3, l4] (.ref o :: S) h Q := ax_aload_n mt169 dX12_overAt_19 rfl
theorem s169_20 (hT : gT h o = some (14, 54)) : aW d 169 20 L (.ref o :: S) h Q = (isRf (gR h o 10) = true ∧ aW d 169 23 L (gR h o 10 :: S) h Q) := ax_geta mt169 dX12_overAt_20 (by decide) ft_49184 fk_49184 hT
theorem s169_23 : aW d 169 23 [l0, l1, .int a, l3, l4] S h Q = aW d 169 24 [l0, l1, .int a, l3, l4] (.int a :: S) h Q := ax_iload_n mt169 dX12_overAt_23 rfl
theorem s169_24 : aW d 169 24 L (.int a :: .ref o :: S) h Q = (inb a (aI h o) ∧ aW d 169 25 L (.int (gI h o a.toNatClampNeg) :: S) h Q) := ax_iald mt169 dX12_overAt_24
theorem s169_25 : aW (d + 1) 169 25 L (.int x0 :: []) h Q = aM d 157 [.int x0] h (fun v h1 => aW (d + 1) 169 28 L (ab_ps v []) h1 Q) := ax_invs mt169 dX12_overAt_25 (by decide) ct_49353 (.inl rfl) mt157 ⟨⟨Nat.le_of_ble_eq_true rfl, Nat.le_of_ble_eq_true rfl, Nat.le_of_ble_eq_true rfl⟩, rfl, rfl⟩
theorem s169_28 : aW d 169 28 L (.int a :: S) h Q = (if a = 0 then aW d 169 92 L S h Q else aW d 169 31 L S h Q) := ax_if_eq mt169 dX12_overAt_28 (by decide)
theorem s169_31 : aW d 169 31 [.ref o, l1, l2, l3, l4] S h Q = aW d 169 32 [.ref o, l1, l2, l3, l4] (.ref o :: S) h Q := ax_aload_n mt169 dX12_overAt_31 rfl
theorem s169_32 : aW d 169 32 [l0, l1, .int a, l3, l4] S h Q = aW d 169 33 [l0, l1, .int a, l3, l4] (.int a :: S) h Q := ax_iload_n mt169 dX12_overAt_32 rfl
theorem s169_33 : aW d 169 33 [l0, l1, l2, l3, .int a] S h Q = aW d 169 35 [l0, l1, l2, l3, .int a] (.int a :: S) h Q := ax_iload mt169 dX12_overAt_33 rfl
theorem s169_35 (hT : gT h o = some (14, 54)) : aW (d + 1) 169 35 L (.int x1 :: .int x0 :: .ref o :: []) h Q = aM d 160 (.ref o :: [.int x0, .int x1]) h (fun v h1 => aW (d + 1) 169 38 L (ab_ps v []) h1 Q) := ax_invv mt169 dX12_overAt_35 (by decide) ct_49371 (.inl rfl) mt160 ⟨⟨Nat.le_of_ble_eq_true rfl, Nat.le_of_ble_eq_true rfl, Nat.le_of_ble_eq_true rfl⟩, rfl, rfl, rfl⟩ hT
theorem s169_38 : aW d 169 38 L (.int a :: S) h Q = (if a = 0 then aW d 169 92 L S h Q else aW d 169 41 L S h Q) := ax_if_eq mt169 dX12_overAt_38 (by decide)
theorem s169_41 : aW d 169 41 [.ref o, l1, l2, l3, l4] S h Q = aW d 169 42 [.ref o, l1, l2, l3, l4] (.ref o :: S) h Q := ax_aload_n mt169 dX12_overAt_41 rfl
theorem s169_42 (hT : gT h o = some (14, 54)) : aW d 169 42 L (.ref o :: S) h Q = (isRf (gR h o 48) = true ∧ aW d 169 45 L (gR h o 48 :: S) h Q) := ax_geta mt169 dX12_overAt_42 (by decide) ft_49262 fk_49262 hT
theorem s169_45 : aW d 169 45 [l0, l1, l2, l3, .int a] S h Q = aW d 169 47 [l0, l1, l2, l3, .int a] (.int a :: S) h Q := ax_iload mt169 dX12_overAt_45 rfl
theorem s169_47 : aW d 169 47 L (.int a :: .ref o :: S) h Q = (inb a (aI h o) ∧ aW d 169 48 L (.int (gI h o a.toNatClampNeg) :: S) h Q) := ax_iald mt169 dX12_overAt_47
theorem s169_48 : aW d 169 48 [l0, .int a, l2, l3, l4] S h Q = aW d 169 49 [l0, .int a, l2, l3, l4] (.int a :: S) h Q := ax_iload_n mt169 dX12_overAt_48 rfl
theorem s169_49 : aW d 169 49 L (.int b :: .int a :: S) h Q = (if a = b then aW d 169 52 L S h Q else aW d 169 92 L S h Q) := ax_icmp_ne mt169 dX12_overAt_49 (by decide)
theorem s169_52 : aW d 169 52 [.ref o, l1, l2, l3, l4] S h Q = aW d 169 53 [.ref o, l1, l2, l3, l4] (.ref o :: S) h Q := ax_aload_n mt169 dX12_overAt_52 rfl
theorem s169_53 (hT : gT h o = some (14, 54)) : aW d 169 53 L (.ref o :: S) h Q = (isRf (gR h o 9) = true ∧ aW d 169 56 L (gR h o 9 :: S) h Q) := ax_geta mt169 dX12_overAt_53 (by decide) ft_49181 fk_49181 hT
theorem s169_56 : aW d 169 56 [l0, l1, l2, l3, .int a] S h Q = aW d 169 58 [l0, l1, l2, l3, .int a] (.int a :: S) h Q := ax_iload mt169 dX12_overAt_56 rfl
theorem s169_58 : aW d 169 58 L (.int a :: .ref o :: S) h Q = (inb a (aZ h o) ∧ aW d 169 59 L (.int (gI h o a.toNatClampNeg) :: S) h Q) := ax_zald mt169 dX12_overAt_58
theorem s169_59 : aW d 169 59 L (.int a :: S) h Q = (if a = 0 then aW d 169 62 L S h Q else aW d 169 92 L S h Q) := ax_if_ne mt169 dX12_overAt_59 (by decide)
theorem s169_62 : aW d 169 62 [l0, l1, l2, .int a, l4] S h Q = aW d 169 63 [l0, l1, l2, .int a, l4] (.int a :: S) h Q := ax_iload_n mt169 dX12_overAt_62 rfl
theorem s169_63 : aW d 169 63 L S h Q = aW d 169 64 L (.int ((-1)) :: S) h Q := ax_iconst mt169 dX12_overAt_63 ic_m1
theorem s169_64 : aW d 169 64 L (.int b :: .int a :: S) h Q = (if a = b then aW d 169 89 L S h Q else aW d 169 67 L S h Q) := ax_icmp_eq mt169 dX12_overAt_64 (by decide)
theorem s169_67 : aW d 169 67 [.ref o, l1, l2, l3, l4] S h Q = aW d 169 68 [.ref o, l1, l2, l3, l4] (.ref o :: S) h Q := ax_aload_n mt169 dX12_overAt_67 rfl
theorem s169_68 : aW d 169 68 [l0, l1, l2, l3, .int a] S h Q = aW d 169 70 [l0, l1, l2, l3, .int a] (.int a :: S) h Q := ax_iload mt169 dX12_overAt_68 rfl
theorem s169_70 (hT : gT h o = some (14, 54)) : aW (d + 1) 169 70 L (.int x0 :: .ref o :: []) h Q = aM d 154 (.ref o :: [.int x0]) h (fun v h1 => aW (d + 1) 169 73 L (ab_ps v []) h1 Q) := ax_invv mt169 dX12_overAt_70 (by decide) ct_49356 (.inl rfl) mt154 ⟨⟨Nat.le_of_ble_eq_true rfl, Nat.le_of_ble_eq_true rfl, Nat.le_of_ble_eq_true rfl⟩, rfl, rfl, rfl⟩ hT
theorem s169_73 : aW d 169 73 [.ref o, l1, l2, l3, l4] S h Q = aW d 169 74 [.ref o, l1, l2, l3, l4] (.ref o :: S) h Q := ax_aload_n mt169 dX12_overAt_73 rfl
theorem s169_74 : aW d 169 74 [l0, l1, l2, .int a, l4] S h Q = aW d 169 75 [l0, l1, l2, .int a, l4] (.int a :: S) h Q := ax_iload_n mt169 dX12_overAt_74 rfl
theorem s169_75 : aW d 169 75 L (.int a :: S) h Q = (if a < 0 then aW d 169 78 L S h Q else aW d 169 82 L S h Q) := ax_if_ge mt169 dX12_overAt_75 (by decide)
theorem s169_78 : aW d 169 78 L S h Q = aW d 169 79 L (.int (nI 0) :: S) h Q := ax_iconst mt169 dX12_overAt_78 ic_0
theorem s169_79 : aW d 169 79 L S h Q = aW d 169 83 L S h Q := ax_goto mt169 dX12_overAt_79 (by decide)
theorem s169_83 (hT : gT h o = some (14, 54)) : aW (d + 1) 169 83 L (.int x0 :: .ref o :: [.int y0]) h Q = aM d 154 (.ref o :: [.int x0]) h (fun v h1 => aW (d + 1) 169 86 L (ab_ps v [.int y0]) h1 Q) := ax_invv mt169 dX12_overAt_83 (by decide) ct_49356 (.inl rfl) mt154 ⟨⟨Nat.le_of_ble_eq_true rfl, Nat.le_of_ble_eq_true rfl, Nat.le_of_ble_eq_true rfl⟩, rfl, rfl, rfl⟩ hT
theorem s169_86 : aW d 169 86 L (.int b :: .int a :: S) h Q = (if b < a then aW d 169 89 L S h Q else aW d 169 92 L S h Q) := ax_icmp_le mt169 dX12_overAt_86 (by decide)
theorem s169_82 : aW d 169 82 [l0, l1, l2, .int a, l4] S h Q = aW d 169 83 [l0, l1, l2, .int a, l4] (.int a :: S) h Q := ax_iload_n mt169 dX12_overAt_82 rfl
theorem s169_89 : aW d 169 89 [l0, l1, l2, l3, .int a] S h Q = aW d 169 91 [l0, l1, l2, l3, .int a] (.int a :: S) h Q := ax_iload mt169 dX12_overAt_89 rfl
theorem s169_91 : aW d 169 91 [l0, l1, l2, l3, l4] (.int a :: S) h Q = aW d 169 92 [l0, l1, l2, .int a, l4] S h Q := ax_istore_n mt169 dX12_overAt_91 (Nat.le_of_ble_eq_true rfl) rfl
theorem s169_92 : aW d 169 92 [l0, l1, l2, l3, .int a] S h Q = aW d 169 95 [l0, l1, l2, l3, .int (a + nI 1)] S h Q := ax_iinc mt169 dX12_overAt_92 rfl ic_1 rfl
theorem s169_95 : aW d 169 95 L S h Q = aW d 169 12 L S h Q := ax_goto mt169 dX12_overAt_95 (by decide)
theorem s169_98 : aW d 169 98 [l0, l1, l2, .int a, l4] S h Q = aW d 169 99 [l0, l1, l2, .int a, l4] (.int a :: S) h Q := ax_iload_n mt169 dX12_overAt_98 rfl
theorem s169_99 : aW d 169 99 L [.int a] h Q = Q (some (.int a)) h := ax_reti mt169 dX12_overAt_99 rfl
end S
