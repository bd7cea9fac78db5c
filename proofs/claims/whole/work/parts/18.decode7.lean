theorem dX7_init_0 : decode cX7_init 0 = .ok (.aload_n 0, 1) := by decide +kernel
theorem dX7_init_1 : decode cX7_init 1 = .ok (.invokespecial 1, 3) := by decide +kernel
theorem dX7_init_4 : decode cX7_init 4 = .ok (.aload_n 0, 1) := by decide +kernel
theorem dX7_init_5 : decode cX7_init 5 = .ok (.bipush 8, 2) := by decide +kernel
theorem dX7_init_7 : decode cX7_init 7 = .ok (.putfield 7, 3) := by decide +kernel
theorem dX7_init_10 : decode cX7_init 10 = .ok (.aload_n 0, 1) := by decide +kernel
theorem dX7_init_11 : decode cX7_init 11 = .ok (.bipush 8, 2) := by decide +kernel
theorem dX7_init_13 : decode cX7_init 13 = .ok (.putfield 13, 3) := by decide +kernel
theorem dX7_init_16 : decode cX7_init 16 = .ok (.aload_n 0, 1) := by decide +kernel
theorem dX7_init_17 : decode cX7_init 17 = .ok (.iconst 3, 1) := by decide +kernel
theorem dX7_init_18 : decode cX7_init 18 = .ok (.putfield 16, 3) := by decide +kernel
theorem dX7_init_21 : decode cX7_init 21 = .ok (.aload_n 0, 1) := by decide +kernel
theorem dX7_init_22 : decode cX7_init 22 = .ok (.iconst 1, 1) := by decide +kernel
theorem dX7_init_23 : decode cX7_init 23 = .ok (.putfield 19, 3) := by decide +kernel
theorem dX7_init_26 : decode cX7_init 26 = .ok (.aload_n 0, 1) := by decide +kernel
theorem dX7_init_27 : decode cX7_init 27 = .ok (.iconst (-1), 1) := by decide +kernel
theorem dX7_init_28 : decode cX7_init 28 = .ok (.putfield 22, 3) := by decide +kernel
theorem dX7_init_31 : decode cX7_init 31 = .ok (.aload_n 0, 1) := by decide +kernel
theorem dX7_init_32 : decode cX7_init 32 = .ok (.bipush 8, 2) := by decide +kernel
theorem dX7_init_34 : decode cX7_init 34 = .ok (.newarray .int, 2) := by decide +kernel
theorem dX7_init_36 : decode cX7_init 36 = .ok (.putfield 25, 3) := by decide +kernel
theorem dX7_init_39 : decode cX7_init 39 = .ok (.aload_n 0, 1) := by decide +kernel
theorem dX7_init_40 : decode cX7_init 40 = .ok (.bipush 10, 2) := by decide +kernel
theorem dX7_init_42 : decode cX7_init 42 = .ok (.newarray .int, 2) := by decide +kernel
theorem dX7_init_44 : decode cX7_init 44 = .ok (.putfield 29, 3) := by decide +kernel
theorem dX7_init_47 : decode cX7_init 47 = .ok (.aload_n 0, 1) := by decide +kernel
theorem dX7_init_48 : decode cX7_init 48 = .ok (.bipush 10, 2) := by decide +kernel
theorem dX7_init_50 : decode cX7_init 50 = .ok (.newarray .int, 2) := by decide +kernel
theorem dX7_init_52 : decode cX7_init 52 = .ok (.putfield 32, 3) := by decide +kernel
theorem dX7_init_55 : decode cX7_init 55 = .ok (.aload_n 0, 1) := by decide +kernel
theorem dX7_init_56 : decode cX7_init 56 = .ok (.bipush 10, 2) := by decide +kernel
theorem dX7_init_58 : decode cX7_init 58 = .ok (.newarray .int, 2) := by decide +kernel
theorem dX7_init_60 : decode cX7_init 60 = .ok (.putfield 35, 3) := by decide +kernel
theorem dX7_init_63 : decode cX7_init 63 = .ok (.aload_n 0, 1) := by decide +kernel
theorem dX7_init_64 : decode cX7_init 64 = .ok (.bipush 10, 2) := by decide +kernel
theorem dX7_init_66 : decode cX7_init 66 = .ok (.newarray .int, 2) := by decide +kernel
theorem dX7_init_68 : decode cX7_init 68 = .ok (.putfield 38, 3) := by decide +kernel
theorem dX7_init_71 : decode cX7_init 71 = .ok (.aload_n 0, 1) := by decide +kernel
theorem dX7_init_72 : decode cX7_init 72 = .ok (.bipush 10, 2) := by decide +kernel
theorem dX7_init_74 : decode cX7_init 74 = .ok (.newarray .int, 2) := by decide +kernel
theorem dX7_init_76 : decode cX7_init 76 = .ok (.putfield 41, 3) := by decide +kernel
theorem dX7_init_79 : decode cX7_init 79 = .ok (.aload_n 0, 1) := by decide +kernel
theorem dX7_init_80 : decode cX7_init 80 = .ok (.bipush 10, 2) := by decide +kernel
theorem dX7_init_82 : decode cX7_init 82 = .ok (.newarray .int, 2) := by decide +kernel
theorem dX7_init_84 : decode cX7_init 84 = .ok (.putfield 44, 3) := by decide +kernel
theorem dX7_init_87 : decode cX7_init 87 = .ok (.aload_n 0, 1) := by decide +kernel
theorem dX7_init_88 : decode cX7_init 88 = .ok (.bipush 10, 2) := by decide +kernel
theorem dX7_init_90 : decode cX7_init 90 = .ok (.newarray .int, 2) := by decide +kernel
theorem dX7_init_92 : decode cX7_init 92 = .ok (.putfield 47, 3) := by decide +kernel
theorem dX7_init_95 : decode cX7_init 95 = .ok (.aload_n 0, 1) := by decide +kernel
theorem dX7_init_96 : decode cX7_init 96 = .ok (.bipush 10, 2) := by decide +kernel
theorem dX7_init_98 : decode cX7_init 98 = .ok (.newarray .int, 2) := by decide +kernel
theorem dX7_init_100 : decode cX7_init 100 = .ok (.putfield 50, 3) := by decide +kernel
theorem dX7_init_103 : decode cX7_init 103 = .ok (.aload_n 0, 1) := by decide +kernel
theorem dX7_init_104 : decode cX7_init 104 = .ok (.bipush 10, 2) := by decide +kernel
theorem dX7_init_106 : decode cX7_init 106 = .ok (.newarray .int, 2) := by decide +kernel
theorem dX7_init_108 : decode cX7_init 108 = .ok (.putfield 53, 3) := by decide +kernel
theorem dX7_init_111 : decode cX7_init 111 = .ok (.aload_n 0, 1) := by decide +kernel
theorem dX7_init_112 : decode cX7_init 112 = .ok (.bipush 8, 2) := by decide +kernel
theorem dX7_init_114 : decode cX7_init 114 = .ok (.newarray .int, 2) := by decide +kernel
theorem dX7_init_116 : decode cX7_init 116 = .ok (.putfield 56, 3) := by decide +kernel
theorem dX7_init_119 : decode cX7_init 119 = .ok (.aload_n 0, 1) := by decide +kernel
theorem dX7_init_120 : decode cX7_init 120 = .ok (.bipush 8, 2) := by decide +kernel
theorem dX7_init_122 : decode cX7_init 122 = .ok (.newarray .int, 2) := by decide +kernel
theorem dX7_init_124 : decode cX7_init 124 = .ok (.putfield 59, 3) := by decide +kernel
theorem dX7_init_127 : decode cX7_init 127 = .ok (.aload_n 0, 1) := by decide +kernel
theorem dX7_init_128 : decode cX7_init 128 = .ok (.bipush 8, 2) := by decide +kernel
theorem dX7_init_130 : decode cX7_init 130 = .ok (.newarray .int, 2) := by decide +kernel
theorem dX7_init_132 : decode cX7_init 132 = .ok (.putfield 62, 3) := by decide +kernel
theorem dX7_init_135 : decode cX7_init 135 = .ok (.aload_n 0, 1) := by decide +kernel
theorem dX7_init_136 : decode cX7_init 136 = .ok (.bipush 8, 2) := by decide +kernel
theorem dX7_init_138 : decode cX7_init 138 = .ok (.newarray .int, 2) := by decide +kernel
theorem dX7_init_140 : decode cX7_init 140 = .ok (.putfield 65, 3) := by decide +kernel
theorem dX7_init_143 : decode cX7_init 143 = .ok (.aload_n 0, 1) := by decide +kernel
theorem dX7_init_144 : decode cX7_init 144 = .ok (.sipush 1280, 3) := by decide +kernel
theorem dX7_init_147 : decode cX7_init 147 = .ok (.newarray .long, 2) := by decide +kernel
theorem dX7_init_149 : decode cX7_init 149 = .ok (.putfield 68, 3) := by decide +kernel
theorem dX7_init_152 : decode cX7_init 152 = .ok (.aload_n 0, 1) := by decide +kernel
theorem dX7_init_153 : decode cX7_init 153 = .ok (.sipush 160, 3) := by decide +kernel
theorem dX7_init_156 : decode cX7_init 156 = .ok (.newarray .long, 2) := by decide +kernel
theorem dX7_init_158 : decode cX7_init 158 = .ok (.putfield 72, 3) := by decide +kernel
theorem dX7_init_161 : decode cX7_init 161 = .ok (.aload_n 0, 1) := by decide +kernel
theorem dX7_init_162 : decode cX7_init 162 = .ok (.bipush 48, 2) := by decide +kernel
theorem dX7_init_164 : decode cX7_init 164 = .ok (.newarray .int, 2) := by decide +kernel
theorem dX7_init_166 : decode cX7_init 166 = .ok (.dup, 1) := by decide +kernel
theorem dX7_init_167 : decode cX7_init 167 = .ok (.iconst 0, 1) := by decide +kernel
theorem dX7_init_168 : decode cX7_init 168 = .ok (.bipush 112, 2) := by decide +kernel
theorem dX7_init_170 : decode cX7_init 170 = .ok (.iastore, 1) := by decide +kernel
theorem dX7_init_171 : decode cX7_init 171 = .ok (.dup, 1) := by decide +kernel
theorem dX7_init_172 : decode cX7_init 172 = .ok (.iconst 1, 1) := by decide +kernel
theorem dX7_init_173 : decode cX7_init 173 = .ok (.bipush 101, 2) := by decide +kernel
theorem dX7_init_175 : decode cX7_init 175 = .ok (.iastore, 1) := by decide +kernel
theorem dX7_init_176 : decode cX7_init 176 = .ok (.dup, 1) := by decide +kernel
theorem dX7_init_177 : decode cX7_init 177 = .ok (.iconst 2, 1) := by decide +kernel
theorem dX7_init_178 : decode cX7_init 178 = .ok (.bipush 114, 2) := by decide +kernel
theorem dX7_init_180 : decode cX7_init 180 = .ok (.iastore, 1) := by decide +kernel
theorem dX7_init_181 : decode cX7_init 181 = .ok (.dup, 1) := by decide +kernel
theorem dX7_init_182 : decode cX7_init 182 = .ok (.iconst 3, 1) := by decide +kernel
theorem dX7_init_183 : decode cX7_init 183 = .ok (.bipush 115, 2) := by decide +kernel
theorem dX7_init_185 : decode cX7_init 185 = .ok (.iastore, 1) := by decide +kernel
theorem dX7_init_186 : decode cX7_init 186 = .ok (.dup, 1) := by decide +kernel
theorem dX7_init_187 : decode cX7_init 187 = .ok (.iconst 4, 1) := by decide +kernel
theorem dX7_init_188 : decode cX7_init 188 = .ok (.bipush 111, 2) := by decide +kernel
theorem dX7_init_190 : decode cX7_init 190 = .ok (.iastore, 1) := by decide +kernel
theorem dX7_init_191 : decode cX7_init 191 = .ok (.dup, 1) := by decide +kernel
theorem dX7_init_192 : decode cX7_init 192 = .ok (.iconst 5, 1) := by decide +kernel
theorem dX7_init_193 : decode cX7_init 193 = .ok (.bipush 110, 2) := by decide +kernel
theorem dX7_init_195 : decode cX7_init 195 = .ok (.iastore, 1) := by decide +kernel
theorem dX7_init_196 : decode cX7_init 196 = .ok (.dup, 1) := by decide +kernel
theorem dX7_init_197 : decode cX7_init 197 = .ok (.bipush 6, 2) := by decide +kernel
theorem dX7_init_199 : decode cX7_init 199 = .ok (.bipush 32, 2) := by decide +kernel
theorem dX7_init_201 : decode cX7_init 201 = .ok (.iastore, 1) := by decide +kernel
theorem dX7_init_202 : decode cX7_init 202 = .ok (.dup, 1) := by decide +kernel
theorem dX7_init_203 : decode cX7_init 203 = .ok (.bipush 7, 2) := by decide +kernel
theorem dX7_init_205 : decode cX7_init 205 = .ok (.iconst 0, 1) := by decide +kernel
theorem dX7_init_206 : decode cX7_init 206 = .ok (.iastore, 1) := by decide +kernel
theorem dX7_init_207 : decode cX7_init 207 = .ok (.dup, 1) := by decide +kernel
theorem dX7_init_208 : decode cX7_init 208 = .ok (.bipush 8, 2) := by decide +kernel
theorem dX7_init_210 : decode cX7_init 210 = .ok (.bipush 102, 2) := by decide +kernel
theorem dX7_init_212 : decode cX7_init 212 = .ok (.iastore, 1) := by decide +kernel
theorem dX7_init_213 : decode cX7_init 213 = .ok (.dup, 1) := by decide +kernel
theorem dX7_init_214 : decode cX7_init 214 = .ok (.bipush 9, 2) := by decide +kernel
theorem dX7_init_216 : decode cX7_init 216 = .ok (.bipush 114, 2) := by decide +kernel
theorem dX7_init_218 : decode cX7_init 218 = .ok (.iastore, 1) := by decide +kernel
theorem dX7_init_219 : decode cX7_init 219 = .ok (.dup, 1) := by decide +kernel
theorem dX7_init_220 : decode cX7_init 220 = .ok (.bipush 10, 2) := by decide +kernel
theorem dX7_init_222 : decode cX7_init 222 = .ok (.bipush 105, 2) := by decide +kernel
theorem dX7_init_224 : decode cX7_init 224 = .ok (.iastore, 1) := by decide +kernel
theorem dX7_init_225 : decode cX7_init 225 = .ok (.dup, 1) := by decide +kernel
theorem dX7_init_226 : decode cX7_init 226 = .ok (.bipush 11, 2) := by decide +kernel
theorem dX7_init_228 : decode cX7_init 228 = .ok (.bipush 101, 2) := by decide +kernel
theorem dX7_init_230 : decode cX7_init 230 = .ok (.iastore, 1) := by decide +kernel
theorem dX7_init_231 : decode cX7_init 231 = .ok (.dup, 1) := by decide +kernel
theorem dX7_init_232 : decode cX7_init 232 = .ok (.bipush 12, 2) := by decide +kernel
theorem dX7_init_234 : decode cX7_init 234 = .ok (.bipush 110, 2) := by decide +kernel
theorem dX7_init_236 : decode cX7_init 236 = .ok (.iastore, 1) := by decide +kernel
theorem dX7_init_237 : decode cX7_init 237 = .ok (.dup, 1) := by decide +kernel
theorem dX7_init_238 : decode cX7_init 238 = .ok (.bipush 13, 2) := by decide +kernel
theorem dX7_init_240 : decode cX7_init 240 = .ok (.bipush 100, 2) := by decide +kernel
theorem dX7_init_242 : decode cX7_init 242 = .ok (.iastore, 1) := by decide +kernel
theorem dX7_init_243 : decode cX7_init 243 = .ok (.dup, 1) := by decide +kernel
theorem dX7_init_244 : decode cX7_init 244 = .ok (.bipush 14, 2) := by decide +kernel
theorem dX7_init_246 : decode cX7_init 246 = .ok (.bipush 32, 2) := by decide +kernel
theorem dX7_init_248 : decode cX7_init 248 = .ok (.iastore, 1) := by decide +kernel
theorem dX7_init_249 : decode cX7_init 249 = .ok (.dup, 1) := by decide +kernel
theorem dX7_init_250 : decode cX7_init 250 = .ok (.bipush 15, 2) := by decide +kernel
theorem dX7_init_252 : decode cX7_init 252 = .ok (.iconst 0, 1) := by decide +kernel
theorem dX7_init_253 : decode cX7_init 253 = .ok (.iastore, 1) := by decide +kernel
theorem dX7_init_254 : decode cX7_init 254 = .ok (.dup, 1) := by decide +kernel
theorem dX7_init_255 : decode cX7_init 255 = .ok (.bipush 16, 2) := by decide +kernel
theorem dX7_init_257 : decode cX7_init 257 = .ok (.bipush 108, 2) := by decide +kernel
theorem dX7_init_259 : decode cX7_init 259 = .ok (.iastore, 1) := by decide +kernel
theorem dX7_init_260 : decode cX7_init 260 = .ok (.dup, 1) := by decide +kernel
theorem dX7_init_261 : decode cX7_init 261 = .ok (.bipush 17, 2) := by decide +kernel
theorem dX7_init_263 : decode cX7_init 263 = .ok (.bipush 101, 2) := by decide +kernel
theorem dX7_init_265 : decode cX7_init 265 = .ok (.iastore, 1) := by decide +kernel
theorem dX7_init_266 : decode cX7_init 266 = .ok (.dup, 1) := by decide +kernel
theorem dX7_init_267 : decode cX7_init 267 = .ok (.bipush 18, 2) := by decide +kernel
theorem dX7_init_269 : decode cX7_init 269 = .ok (.bipush 118, 2) := by decide +kernel
theorem dX7_init_271 : decode cX7_init 271 = .ok (.iastore, 1) := by decide +kernel
theorem dX7_init_272 : decode cX7_init 272 = .ok (.dup, 1) := by decide +kernel
theorem dX7_init_273 : decode cX7_init 273 = .ok (.bipush 19, 2) := by decide +kernel
theorem dX7_init_275 : decode cX7_init 275 = .ok (.bipush 101, 2) := by decide +kernel
theorem dX7_init_277 : decode cX7_init 277 = .ok (.iastore, 1) := by decide +kernel
theorem dX7_init_278 : decode cX7_init 278 = .ok (.dup, 1) := by decide +kernel
theorem dX7_init_279 : decode cX7_init 279 = .ok (.bipush 20, 2) := by decide +kernel
theorem dX7_init_281 : decode cX7_init 281 = .ok (.bipush 108, 2) := by decide +kernel
theorem dX7_init_283 : decode cX7_init 283 = .ok (.iastore, 1) := by decide +kernel
theorem dX7_init_284 : decode cX7_init 284 = .ok (.dup, 1) := by decide +kernel
theorem dX7_init_285 : decode cX7_init 285 = .ok (.bipush 21, 2) := by decide +kernel
theorem dX7_init_287 : decode cX7_init 287 = .ok (.bipush 32, 2) := by decide +kernel
theorem dX7_init_289 : decode cX7_init 289 = .ok (.iastore, 1) := by decide +kernel
theorem dX7_init_290 : decode cX7_init 290 = .ok (.dup, 1) := by decide +kernel
theorem dX7_init_291 : decode cX7_init 291 = .ok (.bipush 22, 2) := by decide +kernel
theorem dX7_init_293 : decode cX7_init 293 = .ok (.iconst 0, 1) := by decide +kernel
theorem dX7_init_294 : decode cX7_init 294 = .ok (.iastore, 1) := by decide +kernel
theorem dX7_init_295 : decode cX7_init 295 = .ok (.dup, 1) := by decide +kernel
theorem dX7_init_296 : decode cX7_init 296 = .ok (.bipush 23, 2) := by decide +kernel
theorem dX7_init_298 : decode cX7_init 298 = .ok (.bipush 114, 2) := by decide +kernel
theorem dX7_init_300 : decode cX7_init 300 = .ok (.iastore, 1) := by decide +kernel
theorem dX7_init_301 : decode cX7_init 301 = .ok (.dup, 1) := by decide +kernel
theorem dX7_init_302 : decode cX7_init 302 = .ok (.bipush 24, 2) := by decide +kernel
theorem dX7_init_304 : decode cX7_init 304 = .ok (.bipush 97, 2) := by decide +kernel
theorem dX7_init_306 : decode cX7_init 306 = .ok (.iastore, 1) := by decide +kernel
theorem dX7_init_307 : decode cX7_init 307 = .ok (.dup, 1) := by decide +kernel
theorem dX7_init_308 : decode cX7_init 308 = .ok (.bipush 25, 2) := by decide +kernel
theorem dX7_init_310 : decode cX7_init 310 = .ok (.bipush 105, 2) := by decide +kernel
theorem dX7_init_312 : decode cX7_init 312 = .ok (.iastore, 1) := by decide +kernel
theorem dX7_init_313 : decode cX7_init 313 = .ok (.dup, 1) := by decide +kernel
theorem dX7_init_314 : decode cX7_init 314 = .ok (.bipush 26, 2) := by decide +kernel
theorem dX7_init_316 : decode cX7_init 316 = .ok (.bipush 110, 2) := by decide +kernel
theorem dX7_init_318 : decode cX7_init 318 = .ok (.iastore, 1) := by decide +kernel
theorem dX7_init_319 : decode cX7_init 319 = .ok (.dup, 1) := by decide +kernel
theorem dX7_init_320 : decode cX7_init 320 = .ok (.bipush 27, 2) := by decide +kernel
theorem dX7_init_322 : decode cX7_init 322 = .ok (.bipush 32, 2) := by decide +kernel
theorem dX7_init_324 : decode cX7_init 324 = .ok (.iastore, 1) := by decide +kernel
theorem dX7_init_325 : decode cX7_init 325 = .ok (.dup, 1) := by decide +kernel
theorem dX7_init_326 : decode cX7_init 326 = .ok (.bipush 28, 2) := by decide +kernel
theorem dX7_init_328 : decode cX7_init 328 = .ok (.iconst 0, 1) := by decide +kernel
theorem dX7_init_329 : decode cX7_init 329 = .ok (.iastore, 1) := by decide +kernel
theorem dX7_init_330 : decode cX7_init 330 = .ok (.dup, 1) := by decide +kernel
theorem dX7_init_331 : decode cX7_init 331 = .ok (.bipush 29, 2) := by decide +kernel
theorem dX7_init_333 : decode cX7_init 333 = .ok (.bipush 99, 2) := by decide +kernel
theorem dX7_init_335 : decode cX7_init 335 = .ok (.iastore, 1) := by decide +kernel
theorem dX7_init_336 : decode cX7_init 336 = .ok (.dup, 1) := by decide +kernel
theorem dX7_init_337 : decode cX7_init 337 = .ok (.bipush 30, 2) := by decide +kernel
theorem dX7_init_339 : decode cX7_init 339 = .ok (.bipush 104, 2) := by decide +kernel
theorem dX7_init_341 : decode cX7_init 341 = .ok (.iastore, 1) := by decide +kernel
theorem dX7_init_342 : decode cX7_init 342 = .ok (.dup, 1) := by decide +kernel
theorem dX7_init_343 : decode cX7_init 343 = .ok (.bipush 31, 2) := by decide +kernel
theorem dX7_init_345 : decode cX7_init 345 = .ok (.bipush 97, 2) := by decide +kernel
theorem dX7_init_347 : decode cX7_init 347 = .ok (.iastore, 1) := by decide +kernel
theorem dX7_init_348 : decode cX7_init 348 = .ok (.dup, 1) := by decide +kernel
theorem dX7_init_349 : decode cX7_init 349 = .ok (.bipush 32, 2) := by decide +kernel
theorem dX7_init_351 : decode cX7_init 351 = .ok (.bipush 105, 2) := by decide +kernel
theorem dX7_init_353 : decode cX7_init 353 = .ok (.iastore, 1) := by decide +kernel
theorem dX7_init_354 : decode cX7_init 354 = .ok (.dup, 1) := by decide +kernel
theorem dX7_init_355 : decode cX7_init 355 = .ok (.bipush 33, 2) := by decide +kernel
theorem dX7_init_357 : decode cX7_init 357 = .ok (.bipush 114, 2) := by decide +kernel
theorem dX7_init_359 : decode cX7_init 359 = .ok (.iastore, 1) := by decide +kernel
theorem dX7_init_360 : decode cX7_init 360 = .ok (.dup, 1) := by decide +kernel
theorem dX7_init_361 : decode cX7_init 361 = .ok (.bipush 34, 2) := by decide +kernel
theorem dX7_init_363 : decode cX7_init 363 = .ok (.bipush 115, 2) := by decide +kernel
theorem dX7_init_365 : decode cX7_init 365 = .ok (.iastore, 1) := by decide +kernel
theorem dX7_init_366 : decode cX7_init 366 = .ok (.dup, 1) := by decide +kernel
theorem dX7_init_367 : decode cX7_init 367 = .ok (.bipush 35, 2) := by decide +kernel
theorem dX7_init_369 : decode cX7_init 369 = .ok (.bipush 32, 2) := by decide +kernel
theorem dX7_init_371 : decode cX7_init 371 = .ok (.iastore, 1) := by decide +kernel
theorem dX7_init_372 : decode cX7_init 372 = .ok (.dup, 1) := by decide +kernel
theorem dX7_init_373 : decode cX7_init 373 = .ok (.bipush 36, 2) := by decide +kernel
theorem dX7_init_375 : decode cX7_init 375 = .ok (.iconst 0, 1) := by decide +kernel
theorem dX7_init_376 : decode cX7_init 376 = .ok (.iastore, 1) := by decide +kernel
theorem dX7_init_377 : decode cX7_init 377 = .ok (.dup, 1) := by decide +kernel
theorem dX7_init_378 : decode cX7_init 378 = .ok (.bipush 37, 2) := by decide +kernel
theorem dX7_init_380 : decode cX7_init 380 = .ok (.bipush 98, 2) := by decide +kernel
theorem dX7_init_382 : decode cX7_init 382 = .ok (.iastore, 1) := by decide +kernel
theorem dX7_init_383 : decode cX7_init 383 = .ok (.dup, 1) := by decide +kernel
theorem dX7_init_384 : decode cX7_init 384 = .ok (.bipush 38, 2) := by decide +kernel
theorem dX7_init_386 : decode cX7_init 386 = .ok (.bipush 97, 2) := by decide +kernel
theorem dX7_init_388 : decode cX7_init 388 = .ok (.iastore, 1) := by decide +kernel
theorem dX7_init_389 : decode cX7_init 389 = .ok (.dup, 1) := by decide +kernel
theorem dX7_init_390 : decode cX7_init 390 = .ok (.bipush 39, 2) := by decide +kernel
theorem dX7_init_392 : decode cX7_init 392 = .ok (.bipush 114, 2) := by decide +kernel
theorem dX7_init_394 : decode cX7_init 394 = .ok (.iastore, 1) := by decide +kernel
theorem dX7_init_395 : decode cX7_init 395 = .ok (.dup, 1) := by decide +kernel
theorem dX7_init_396 : decode cX7_init 396 = .ok (.bipush 40, 2) := by decide +kernel
theorem dX7_init_398 : decode cX7_init 398 = .ok (.bipush 32, 2) := by decide +kernel
theorem dX7_init_400 : decode cX7_init 400 = .ok (.iastore, 1) := by decide +kernel
theorem dX7_init_401 : decode cX7_init 401 = .ok (.dup, 1) := by decide +kernel
theorem dX7_init_402 : decode cX7_init 402 = .ok (.bipush 41, 2) := by decide +kernel
theorem dX7_init_404 : decode cX7_init 404 = .ok (.iconst 0, 1) := by decide +kernel
theorem dX7_init_405 : decode cX7_init 405 = .ok (.iastore, 1) := by decide +kernel
theorem dX7_init_406 : decode cX7_init 406 = .ok (.dup, 1) := by decide +kernel
theorem dX7_init_407 : decode cX7_init 407 = .ok (.bipush 42, 2) := by decide +kernel
theorem dX7_init_409 : decode cX7_init 409 = .ok (.bipush 103, 2) := by decide +kernel
theorem dX7_init_411 : decode cX7_init 411 = .ok (.iastore, 1) := by decide +kernel
theorem dX7_init_412 : decode cX7_init 412 = .ok (.dup, 1) := by decide +kernel
theorem dX7_init_413 : decode cX7_init 413 = .ok (.bipush 43, 2) := by decide +kernel
theorem dX7_init_415 : decode cX7_init 415 = .ok (.bipush 111, 2) := by decide +kernel
theorem dX7_init_417 : decode cX7_init 417 = .ok (.iastore, 1) := by decide +kernel
theorem dX7_init_418 : decode cX7_init 418 = .ok (.dup, 1) := by decide +kernel
theorem dX7_init_419 : decode cX7_init 419 = .ok (.bipush 44, 2) := by decide +kernel
theorem dX7_init_421 : decode cX7_init 421 = .ok (.bipush 110, 2) := by decide +kernel
theorem dX7_init_423 : decode cX7_init 423 = .ok (.iastore, 1) := by decide +kernel
theorem dX7_init_424 : decode cX7_init 424 = .ok (.dup, 1) := by decide +kernel
theorem dX7_init_425 : decode cX7_init 425 = .ok (.bipush 45, 2) := by decide +kernel
theorem dX7_init_427 : decode cX7_init 427 = .ok (.bipush 101, 2) := by decide +kernel
theorem dX7_init_429 : decode cX7_init 429 = .ok (.iastore, 1) := by decide +kernel
theorem dX7_init_430 : decode cX7_init 430 = .ok (.dup, 1) := by decide +kernel
theorem dX7_init_431 : decode cX7_init 431 = .ok (.bipush 46, 2) := by decide +kernel
theorem dX7_init_433 : decode cX7_init 433 = .ok (.bipush 32, 2) := by decide +kernel
theorem dX7_init_435 : decode cX7_init 435 = .ok (.iastore, 1) := by decide +kernel
theorem dX7_init_436 : decode cX7_init 436 = .ok (.dup, 1) := by decide +kernel
theorem dX7_init_437 : decode cX7_init 437 = .ok (.bipush 47, 2) := by decide +kernel
theorem dX7_init_439 : decode cX7_init 439 = .ok (.iconst 0, 1) := by decide +kernel
theorem dX7_init_440 : decode cX7_init 440 = .ok (.iastore, 1) := by decide +kernel
theorem dX7_init_441 : decode cX7_init 441 = .ok (.putfield 75, 3) := by decide +kernel
theorem dX7_init_444 : decode cX7_init 444 = .ok (.aload_n 0, 1) := by decide +kernel
theorem dX7_init_445 : decode cX7_init 445 = .ok (.bipush 7, 2) := by decide +kernel
theorem dX7_init_447 : decode cX7_init 447 = .ok (.newarray .int, 2) := by decide +kernel
theorem dX7_init_449 : decode cX7_init 449 = .ok (.dup, 1) := by decide +kernel
theorem dX7_init_450 : decode cX7_init 450 = .ok (.iconst 0, 1) := by decide +kernel
theorem dX7_init_451 : decode cX7_init 451 = .ok (.iconst 4, 1) := by decide +kernel
theorem dX7_init_452 : decode cX7_init 452 = .ok (.iastore, 1) := by decide +kernel
theorem dX7_init_453 : decode cX7_init 453 = .ok (.dup, 1) := by decide +kernel
theorem dX7_init_454 : decode cX7_init 454 = .ok (.iconst 1, 1) := by decide +kernel
theorem dX7_init_455 : decode cX7_init 455 = .ok (.iconst 2, 1) := by decide +kernel
theorem dX7_init_456 : decode cX7_init 456 = .ok (.iastore, 1) := by decide +kernel
theorem dX7_init_457 : decode cX7_init 457 = .ok (.dup, 1) := by decide +kernel
theorem dX7_init_458 : decode cX7_init 458 = .ok (.iconst 2, 1) := by decide +kernel
theorem dX7_init_459 : decode cX7_init 459 = .ok (.iconst 1, 1) := by decide +kernel
theorem dX7_init_460 : decode cX7_init 460 = .ok (.iastore, 1) := by decide +kernel
theorem dX7_init_461 : decode cX7_init 461 = .ok (.dup, 1) := by decide +kernel
theorem dX7_init_462 : decode cX7_init 462 = .ok (.iconst 3, 1) := by decide +kernel
theorem dX7_init_463 : decode cX7_init 463 = .ok (.iconst 1, 1) := by decide +kernel
theorem dX7_init_464 : decode cX7_init 464 = .ok (.iastore, 1) := by decide +kernel
theorem dX7_init_465 : decode cX7_init 465 = .ok (.dup, 1) := by decide +kernel
theorem dX7_init_466 : decode cX7_init 466 = .ok (.iconst 4, 1) := by decide +kernel
theorem dX7_init_467 : decode cX7_init 467 = .ok (.iconst 1, 1) := by decide +kernel
theorem dX7_init_468 : decode cX7_init 468 = .ok (.iastore, 1) := by decide +kernel
theorem dX7_init_469 : decode cX7_init 469 = .ok (.dup, 1) := by decide +kernel
theorem dX7_init_470 : decode cX7_init 470 = .ok (.iconst 5, 1) := by decide +kernel
theorem dX7_init_471 : decode cX7_init 471 = .ok (.iconst 1, 1) := by decide +kernel
theorem dX7_init_472 : decode cX7_init 472 = .ok (.iastore, 1) := by decide +kernel
theorem dX7_init_473 : decode cX7_init 473 = .ok (.dup, 1) := by decide +kernel
theorem dX7_init_474 : decode cX7_init 474 = .ok (.bipush 6, 2) := by decide +kernel
theorem dX7_init_476 : decode cX7_init 476 = .ok (.iconst 1, 1) := by decide +kernel
theorem dX7_init_477 : decode cX7_init 477 = .ok (.iastore, 1) := by decide +kernel
theorem dX7_init_478 : decode cX7_init 478 = .ok (.putfield 78, 3) := by decide +kernel
theorem dX7_init_481 : decode cX7_init 481 = .ok (.aload_n 0, 1) := by decide +kernel
theorem dX7_init_482 : decode cX7_init 482 = .ok (.iconst 4, 1) := by decide +kernel
theorem dX7_init_483 : decode cX7_init 483 = .ok (.newarray .int, 2) := by decide +kernel
theorem dX7_init_485 : decode cX7_init 485 = .ok (.dup, 1) := by decide +kernel
theorem dX7_init_486 : decode cX7_init 486 = .ok (.iconst 0, 1) := by decide +kernel
theorem dX7_init_487 : decode cX7_init 487 = .ok (.bipush 6, 2) := by decide +kernel
theorem dX7_init_489 : decode cX7_init 489 = .ok (.iastore, 1) := by decide +kernel
theorem dX7_init_490 : decode cX7_init 490 = .ok (.dup, 1) := by decide +kernel
theorem dX7_init_491 : decode cX7_init 491 = .ok (.iconst 1, 1) := by decide +kernel
theorem dX7_init_492 : decode cX7_init 492 = .ok (.bipush 9, 2) := by decide +kernel
theorem dX7_init_494 : decode cX7_init 494 = .ok (.iastore, 1) := by decide +kernel
theorem dX7_init_495 : decode cX7_init 495 = .ok (.dup, 1) := by decide +kernel
theorem dX7_init_496 : decode cX7_init 496 = .ok (.iconst 2, 1) := by decide +kernel
theorem dX7_init_497 : decode cX7_init 497 = .ok (.bipush 20, 2) := by decide +kernel
theorem dX7_init_499 : decode cX7_init 499 = .ok (.iastore, 1) := by decide +kernel
theorem dX7_init_500 : decode cX7_init 500 = .ok (.dup, 1) := by decide +kernel
theorem dX7_init_501 : decode cX7_init 501 = .ok (.iconst 3, 1) := by decide +kernel
theorem dX7_init_502 : decode cX7_init 502 = .ok (.iconst 1, 1) := by decide +kernel
theorem dX7_init_503 : decode cX7_init 503 = .ok (.iastore, 1) := by decide +kernel
theorem dX7_init_504 : decode cX7_init 504 = .ok (.putfield 81, 3) := by decide +kernel
theorem dX7_init_507 : decode cX7_init 507 = .ok (.aload_n 0, 1) := by decide +kernel
theorem dX7_init_508 : decode cX7_init 508 = .ok (.iconst 4, 1) := by decide +kernel
theorem dX7_init_509 : decode cX7_init 509 = .ok (.newarray .int, 2) := by decide +kernel
theorem dX7_init_511 : decode cX7_init 511 = .ok (.putfield 84, 3) := by decide +kernel
theorem dX7_init_514 : decode cX7_init 514 = .ok (.aload_n 0, 1) := by decide +kernel
theorem dX7_init_515 : decode cX7_init 515 = .ok (.bipush 100, 2) := by decide +kernel
theorem dX7_init_517 : decode cX7_init 517 = .ok (.newarray .int, 2) := by decide +kernel
theorem dX7_init_519 : decode cX7_init 519 = .ok (.putfield 87, 3) := by decide +kernel
theorem dX7_init_522 : decode cX7_init 522 = .ok (.aload_n 0, 1) := by decide +kernel
theorem dX7_init_523 : decode cX7_init 523 = .ok (.bipush 100, 2) := by decide +kernel
theorem dX7_init_525 : decode cX7_init 525 = .ok (.newarray .int, 2) := by decide +kernel
theorem dX7_init_527 : decode cX7_init 527 = .ok (.putfield 90, 3) := by decide +kernel
theorem dX7_init_530 : decode cX7_init 530 = .ok (.aload_n 0, 1) := by decide +kernel
theorem dX7_init_531 : decode cX7_init 531 = .ok (.bipush 100, 2) := by decide +kernel
theorem dX7_init_533 : decode cX7_init 533 = .ok (.newarray .int, 2) := by decide +kernel
theorem dX7_init_535 : decode cX7_init 535 = .ok (.putfield 93, 3) := by decide +kernel
theorem dX7_init_538 : decode cX7_init 538 = .ok (.aload_n 0, 1) := by decide +kernel
theorem dX7_init_539 : decode cX7_init 539 = .ok (.bipush 10, 2) := by decide +kernel
theorem dX7_init_541 : decode cX7_init 541 = .ok (.newarray .int, 2) := by decide +kernel
theorem dX7_init_543 : decode cX7_init 543 = .ok (.putfield 96, 3) := by decide +kernel
theorem dX7_init_546 : decode cX7_init 546 = .ok (.aload_n 0, 1) := by decide +kernel
theorem dX7_init_547 : decode cX7_init 547 = .ok (.bipush 20, 2) := by decide +kernel
theorem dX7_init_549 : decode cX7_init 549 = .ok (.newarray .int, 2) := by decide +kernel
theorem dX7_init_551 : decode cX7_init 551 = .ok (.putfield 99, 3) := by decide +kernel
theorem dX7_init_554 : decode cX7_init 554 = .ok (.return_, 1) := by decide +kernel
theorem dX7_no_0 : decode cX7_no 0 = .ok (.aload_n 0, 1) := by decide +kernel
theorem dX7_no_1 : decode cX7_no 1 = .ok (.getfield 25, 3) := by decide +kernel
theorem dX7_no_4 : decode cX7_no 4 = .ok (.iload_n 1, 1) := by decide +kernel
theorem dX7_no_5 : decode cX7_no 5 = .ok (.ineg, 1) := by decide +kernel
theorem dX7_no_6 : decode cX7_no 6 = .ok (.dup2, 1) := by decide +kernel
theorem dX7_no_7 : decode cX7_no 7 = .ok (.iaload, 1) := by decide +kernel
theorem dX7_no_8 : decode cX7_no 8 = .ok (.iconst 1, 1) := by decide +kernel
theorem dX7_no_9 : decode cX7_no 9 = .ok (.iadd, 1) := by decide +kernel
theorem dX7_no_10 : decode cX7_no 10 = .ok (.iastore, 1) := by decide +kernel
theorem dX7_no_11 : decode cX7_no 11 = .ok (.iload_n 1, 1) := by decide +kernel
theorem dX7_no_12 : decode cX7_no 12 = .ok (.ireturn, 1) := by decide +kernel
theorem dX7_noTen_0 : decode cX7_noTen 0 = .ok (.aload_n 0, 1) := by decide +kernel
theorem dX7_noTen_1 : decode cX7_noTen 1 = .ok (.getfield 25, 3) := by decide +kernel
theorem dX7_noTen_4 : decode cX7_noTen 4 = .ok (.iload_n 1, 1) := by decide +kernel
theorem dX7_noTen_5 : decode cX7_noTen 5 = .ok (.ineg, 1) := by decide +kernel
theorem dX7_noTen_6 : decode cX7_noTen 6 = .ok (.dup2, 1) := by decide +kernel
theorem dX7_noTen_7 : decode cX7_noTen 7 = .ok (.iaload, 1) := by decide +kernel
theorem dX7_noTen_8 : decode cX7_noTen 8 = .ok (.iconst 1, 1) := by decide +kernel
theorem dX7_noTen_9 : decode cX7_noTen 9 = .ok (.iadd, 1) := by decide +kernel
theorem dX7_noTen_10 : decode cX7_noTen 10 = .ok (.iastore, 1) := by decide +kernel
theorem dX7_noTen_11 : decode cX7_noTen 11 = .ok (.iload_n 1, 1) := by decide +kernel
theorem dX7_noTen_12 : decode cX7_noTen 12 = .ok (.bipush 10, 2) := by decide +kernel
theorem dX7_noTen_14 : decode cX7_noTen 14 = .ok (.isub, 1) := by decide +kernel
theorem dX7_noTen_15 : decode cX7_noTen 15 = .ok (.ireturn, 1) := by decide +kernel
theorem dX7_isShelf_0 : decode cX7_isShelf 0 = .ok (.iload_n 1, 1) := by decide +kernel
theorem dX7_isShelf_1 : decode cX7_isShelf 1 = .ok (.ifCond .lt 13, 3) := by decide +kernel
theorem dX7_isShelf_4 : decode cX7_isShelf 4 = .ok (.iload_n 1, 1) := by decide +kernel
theorem dX7_isShelf_5 : decode cX7_isShelf 5 = .ok (.bipush 8, 2) := by decide +kernel
theorem dX7_isShelf_7 : decode cX7_isShelf 7 = .ok (.if_icmp .ge 7, 3) := by decide +kernel
theorem dX7_isShelf_10 : decode cX7_isShelf 10 = .ok (.iconst 1, 1) := by decide +kernel
theorem dX7_isShelf_11 : decode cX7_isShelf 11 = .ok (.goto 4, 3) := by decide +kernel
theorem dX7_isShelf_14 : decode cX7_isShelf 14 = .ok (.iconst 0, 1) := by decide +kernel
theorem dX7_isShelf_15 : decode cX7_isShelf 15 = .ok (.ireturn, 1) := by decide +kernel
theorem dX7_isOne_0 : decode cX7_isOne 0 = .ok (.iload_n 1, 1) := by decide +kernel
theorem dX7_isOne_1 : decode cX7_isOne 1 = .ok (.ifCond .lt 15, 3) := by decide +kernel
theorem dX7_isOne_4 : decode cX7_isOne 4 = .ok (.iload_n 1, 1) := by decide +kernel
theorem dX7_isOne_5 : decode cX7_isOne 5 = .ok (.aload_n 0, 1) := by decide +kernel
theorem dX7_isOne_6 : decode cX7_isOne 6 = .ok (.getfield 102, 3) := by decide +kernel
theorem dX7_isOne_9 : decode cX7_isOne 9 = .ok (.if_icmp .ge 7, 3) := by decide +kernel
theorem dX7_isOne_12 : decode cX7_isOne 12 = .ok (.iconst 1, 1) := by decide +kernel
theorem dX7_isOne_13 : decode cX7_isOne 13 = .ok (.goto 4, 3) := by decide +kernel
theorem dX7_isOne_16 : decode cX7_isOne 16 = .ok (.iconst 0, 1) := by decide +kernel
theorem dX7_isOne_17 : decode cX7_isOne 17 = .ok (.ireturn, 1) := by decide +kernel
theorem dX7_isFrom_0 : decode cX7_isFrom 0 = .ok (.iload_n 1, 1) := by decide +kernel
theorem dX7_isFrom_1 : decode cX7_isFrom 1 = .ok (.iload_n 2, 1) := by decide +kernel
theorem dX7_isFrom_2 : decode cX7_isFrom 2 = .ok (.if_icmp .lt 12, 3) := by decide +kernel
theorem dX7_isFrom_5 : decode cX7_isFrom 5 = .ok (.iload_n 1, 1) := by decide +kernel
theorem dX7_isFrom_6 : decode cX7_isFrom 6 = .ok (.iload_n 3, 1) := by decide +kernel
theorem dX7_isFrom_7 : decode cX7_isFrom 7 = .ok (.if_icmp .gt 7, 3) := by decide +kernel
theorem dX7_isFrom_10 : decode cX7_isFrom 10 = .ok (.iconst 1, 1) := by decide +kernel
theorem dX7_isFrom_11 : decode cX7_isFrom 11 = .ok (.goto 4, 3) := by decide +kernel
theorem dX7_isFrom_14 : decode cX7_isFrom 14 = .ok (.iconst 0, 1) := by decide +kernel
theorem dX7_isFrom_15 : decode cX7_isFrom 15 = .ok (.ireturn, 1) := by decide +kernel
theorem dX7_row_0 : decode cX7_row 0 = .ok (.aload_n 0, 1) := by decide +kernel
theorem dX7_row_1 : decode cX7_row 1 = .ok (.iload_n 1, 1) := by decide +kernel
theorem dX7_row_2 : decode cX7_row 2 = .ok (.invokevirtual 105, 3) := by decide +kernel
theorem dX7_row_5 : decode cX7_row 5 = .ok (.ifCond .ne 9, 3) := by decide +kernel
theorem dX7_row_8 : decode cX7_row 8 = .ok (.aload_n 0, 1) := by decide +kernel
theorem dX7_row_9 : decode cX7_row 9 = .ok (.iconst (-1), 1) := by decide +kernel
theorem dX7_row_10 : decode cX7_row 10 = .ok (.invokevirtual 109, 3) := by decide +kernel
theorem dX7_row_13 : decode cX7_row 13 = .ok (.ireturn, 1) := by decide +kernel
theorem dX7_row_14 : decode cX7_row 14 = .ok (.iload_n 3, 1) := by decide +kernel
theorem dX7_row_15 : decode cX7_row 15 = .ok (.ifCond .ge 10, 3) := by decide +kernel
theorem dX7_row_18 : decode cX7_row 18 = .ok (.aload_n 0, 1) := by decide +kernel
theorem dX7_row_19 : decode cX7_row 19 = .ok (.bipush (-4), 2) := by decide +kernel
theorem dX7_row_21 : decode cX7_row 21 = .ok (.invokevirtual 109, 3) := by decide +kernel
theorem dX7_row_24 : decode cX7_row 24 = .ok (.ireturn, 1) := by decide +kernel
theorem dX7_row_25 : decode cX7_row 25 = .ok (.iload_n 2, 1) := by decide +kernel
theorem dX7_row_26 : decode cX7_row 26 = .ok (.ifCond .lt 8, 3) := by decide +kernel
theorem dX7_row_29 : decode cX7_row 29 = .ok (.iload_n 2, 1) := by decide +kernel
theorem dX7_row_30 : decode cX7_row 30 = .ok (.iconst 3, 1) := by decide +kernel
theorem dX7_row_31 : decode cX7_row 31 = .ok (.if_icmp .le 10, 3) := by decide +kernel
theorem dX7_row_34 : decode cX7_row 34 = .ok (.aload_n 0, 1) := by decide +kernel
theorem dX7_row_35 : decode cX7_row 35 = .ok (.bipush (-6), 2) := by decide +kernel
theorem dX7_row_37 : decode cX7_row 37 = .ok (.invokevirtual 109, 3) := by decide +kernel
theorem dX7_row_40 : decode cX7_row 40 = .ok (.ireturn, 1) := by decide +kernel
theorem dX7_row_41 : decode cX7_row 41 = .ok (.iload_n 3, 1) := by decide +kernel
theorem dX7_row_42 : decode cX7_row 42 = .ok (.sipush 160, 3) := by decide +kernel
theorem dX7_row_45 : decode cX7_row 45 = .ok (.if_icmp .le 10, 3) := by decide +kernel
theorem dX7_row_48 : decode cX7_row 48 = .ok (.aload_n 0, 1) := by decide +kernel
theorem dX7_row_49 : decode cX7_row 49 = .ok (.bipush (-7), 2) := by decide +kernel
theorem dX7_row_51 : decode cX7_row 51 = .ok (.invokevirtual 109, 3) := by decide +kernel
theorem dX7_row_54 : decode cX7_row 54 = .ok (.ireturn, 1) := by decide +kernel
theorem dX7_row_55 : decode cX7_row 55 = .ok (.aload_n 0, 1) := by decide +kernel
theorem dX7_row_56 : decode cX7_row 56 = .ok (.getfield 56, 3) := by decide +kernel
theorem dX7_row_59 : decode cX7_row 59 = .ok (.iload_n 1, 1) := by decide +kernel
theorem dX7_row_60 : decode cX7_row 60 = .ok (.iconst 1, 1) := by decide +kernel
theorem dX7_row_61 : decode cX7_row 61 = .ok (.iastore, 1) := by decide +kernel
theorem dX7_row_62 : decode cX7_row 62 = .ok (.aload_n 0, 1) := by decide +kernel
theorem dX7_row_63 : decode cX7_row 63 = .ok (.getfield 59, 3) := by decide +kernel
theorem dX7_row_66 : decode cX7_row 66 = .ok (.iload_n 1, 1) := by decide +kernel
theorem dX7_row_67 : decode cX7_row 67 = .ok (.iload_n 2, 1) := by decide +kernel
theorem dX7_row_68 : decode cX7_row 68 = .ok (.iastore, 1) := by decide +kernel
theorem dX7_row_69 : decode cX7_row 69 = .ok (.aload_n 0, 1) := by decide +kernel
theorem dX7_row_70 : decode cX7_row 70 = .ok (.getfield 62, 3) := by decide +kernel
theorem dX7_row_73 : decode cX7_row 73 = .ok (.iload_n 1, 1) := by decide +kernel
theorem dX7_row_74 : decode cX7_row 74 = .ok (.iload_n 3, 1) := by decide +kernel
theorem dX7_row_75 : decode cX7_row 75 = .ok (.iastore, 1) := by decide +kernel
theorem dX7_row_76 : decode cX7_row 76 = .ok (.iconst 0, 1) := by decide +kernel
theorem dX7_row_77 : decode cX7_row 77 = .ok (.istore 4, 2) := by decide +kernel
theorem dX7_row_79 : decode cX7_row 79 = .ok (.iload 4, 2) := by decide +kernel
theorem dX7_row_81 : decode cX7_row 81 = .ok (.sipush 160, 3) := by decide +kernel
theorem dX7_row_84 : decode cX7_row 84 = .ok (.if_icmp .ge 23, 3) := by decide +kernel
theorem dX7_row_87 : decode cX7_row 87 = .ok (.aload_n 0, 1) := by decide +kernel
theorem dX7_row_88 : decode cX7_row 88 = .ok (.getfield 68, 3) := by decide +kernel
theorem dX7_row_91 : decode cX7_row 91 = .ok (.sipush 160, 3) := by decide +kernel
theorem dX7_row_94 : decode cX7_row 94 = .ok (.iload_n 1, 1) := by decide +kernel
theorem dX7_row_95 : decode cX7_row 95 = .ok (.imul, 1) := by decide +kernel
theorem dX7_row_96 : decode cX7_row 96 = .ok (.iload 4, 2) := by decide +kernel
theorem dX7_row_98 : decode cX7_row 98 = .ok (.iadd, 1) := by decide +kernel
theorem dX7_row_99 : decode cX7_row 99 = .ok (.lconst 0, 1) := by decide +kernel
theorem dX7_row_100 : decode cX7_row 100 = .ok (.lastore, 1) := by decide +kernel
theorem dX7_row_101 : decode cX7_row 101 = .ok (.iinc 4 1, 3) := by decide +kernel
theorem dX7_row_104 : decode cX7_row 104 = .ok (.goto (-25), 3) := by decide +kernel
theorem dX7_row_107 : decode cX7_row 107 = .ok (.iconst 1, 1) := by decide +kernel
theorem dX7_row_108 : decode cX7_row 108 = .ok (.ireturn, 1) := by decide +kernel
theorem dX7_set_0 : decode cX7_set 0 = .ok (.aload_n 0, 1) := by decide +kernel
theorem dX7_set_1 : decode cX7_set 1 = .ok (.iload_n 1, 1) := by decide +kernel
theorem dX7_set_2 : decode cX7_set 2 = .ok (.invokevirtual 105, 3) := by decide +kernel
theorem dX7_set_5 : decode cX7_set 5 = .ok (.ifCond .ne 9, 3) := by decide +kernel
theorem dX7_set_8 : decode cX7_set 8 = .ok (.aload_n 0, 1) := by decide +kernel
theorem dX7_set_9 : decode cX7_set 9 = .ok (.iconst (-1), 1) := by decide +kernel
theorem dX7_set_10 : decode cX7_set 10 = .ok (.invokevirtual 109, 3) := by decide +kernel
theorem dX7_set_13 : decode cX7_set 13 = .ok (.ireturn, 1) := by decide +kernel
theorem dX7_set_14 : decode cX7_set 14 = .ok (.aload_n 0, 1) := by decide +kernel
theorem dX7_set_15 : decode cX7_set 15 = .ok (.getfield 56, 3) := by decide +kernel
theorem dX7_set_18 : decode cX7_set 18 = .ok (.iload_n 1, 1) := by decide +kernel
theorem dX7_set_19 : decode cX7_set 19 = .ok (.iaload, 1) := by decide +kernel
theorem dX7_set_20 : decode cX7_set 20 = .ok (.iconst 2, 1) := by decide +kernel
theorem dX7_set_21 : decode cX7_set 21 = .ok (.if_icmp .ne 10, 3) := by decide +kernel
theorem dX7_set_24 : decode cX7_set 24 = .ok (.aload_n 0, 1) := by decide +kernel
theorem dX7_set_25 : decode cX7_set 25 = .ok (.bipush (-2), 2) := by decide +kernel
theorem dX7_set_27 : decode cX7_set 27 = .ok (.invokevirtual 109, 3) := by decide +kernel
theorem dX7_set_30 : decode cX7_set 30 = .ok (.ireturn, 1) := by decide +kernel
theorem dX7_set_31 : decode cX7_set 31 = .ok (.aload_n 0, 1) := by decide +kernel
theorem dX7_set_32 : decode cX7_set 32 = .ok (.getfield 56, 3) := by decide +kernel
theorem dX7_set_35 : decode cX7_set 35 = .ok (.iload_n 1, 1) := by decide +kernel
theorem dX7_set_36 : decode cX7_set 36 = .ok (.iaload, 1) := by decide +kernel
theorem dX7_set_37 : decode cX7_set 37 = .ok (.ifCond .ne 10, 3) := by decide +kernel
theorem dX7_set_40 : decode cX7_set 40 = .ok (.aload_n 0, 1) := by decide +kernel
theorem dX7_set_41 : decode cX7_set 41 = .ok (.bipush (-3), 2) := by decide +kernel
theorem dX7_set_43 : decode cX7_set 43 = .ok (.invokevirtual 109, 3) := by decide +kernel
theorem dX7_set_46 : decode cX7_set 46 = .ok (.ireturn, 1) := by decide +kernel
theorem dX7_set_47 : decode cX7_set 47 = .ok (.iload_n 2, 1) := by decide +kernel
theorem dX7_set_48 : decode cX7_set 48 = .ok (.ifCond .lt 13, 3) := by decide +kernel
theorem dX7_set_51 : decode cX7_set 51 = .ok (.iload_n 2, 1) := by decide +kernel
theorem dX7_set_52 : decode cX7_set 52 = .ok (.aload_n 0, 1) := by decide +kernel
theorem dX7_set_53 : decode cX7_set 53 = .ok (.getfield 62, 3) := by decide +kernel
theorem dX7_set_56 : decode cX7_set 56 = .ok (.iload_n 1, 1) := by decide +kernel
theorem dX7_set_57 : decode cX7_set 57 = .ok (.iaload, 1) := by decide +kernel
theorem dX7_set_58 : decode cX7_set 58 = .ok (.if_icmp .lt 10, 3) := by decide +kernel
theorem dX7_set_61 : decode cX7_set 61 = .ok (.aload_n 0, 1) := by decide +kernel
theorem dX7_set_62 : decode cX7_set 62 = .ok (.bipush (-5), 2) := by decide +kernel
theorem dX7_set_64 : decode cX7_set 64 = .ok (.invokevirtual 109, 3) := by decide +kernel
theorem dX7_set_67 : decode cX7_set 67 = .ok (.ireturn, 1) := by decide +kernel
theorem dX7_set_68 : decode cX7_set 68 = .ok (.aload_n 0, 1) := by decide +kernel
theorem dX7_set_69 : decode cX7_set 69 = .ok (.getfield 68, 3) := by decide +kernel
theorem dX7_set_72 : decode cX7_set 72 = .ok (.sipush 160, 3) := by decide +kernel
theorem dX7_set_75 : decode cX7_set 75 = .ok (.iload_n 1, 1) := by decide +kernel
theorem dX7_set_76 : decode cX7_set 76 = .ok (.imul, 1) := by decide +kernel
theorem dX7_set_77 : decode cX7_set 77 = .ok (.iload_n 2, 1) := by decide +kernel
theorem dX7_set_78 : decode cX7_set 78 = .ok (.iadd, 1) := by decide +kernel
theorem dX7_set_79 : decode cX7_set 79 = .ok (.aload_n 0, 1) := by decide +kernel
theorem dX7_set_80 : decode cX7_set 80 = .ok (.getfield 59, 3) := by decide +kernel
theorem dX7_set_83 : decode cX7_set 83 = .ok (.iload_n 1, 1) := by decide +kernel
theorem dX7_set_84 : decode cX7_set 84 = .ok (.iaload, 1) := by decide +kernel
theorem dX7_set_85 : decode cX7_set 85 = .ok (.ifCond .ne 10, 3) := by decide +kernel
theorem dX7_set_88 : decode cX7_set 88 = .ok (.lload_n 3, 1) := by decide +kernel
theorem dX7_set_89 : decode cX7_set 89 = .ok (.l2i, 1) := by decide +kernel
theorem dX7_set_90 : decode cX7_set 90 = .ok (.i2b, 1) := by decide +kernel
theorem dX7_set_91 : decode cX7_set 91 = .ok (.i2l, 1) := by decide +kernel
theorem dX7_set_92 : decode cX7_set 92 = .ok (.goto 37, 3) := by decide +kernel
theorem dX7_set_95 : decode cX7_set 95 = .ok (.aload_n 0, 1) := by decide +kernel
theorem dX7_set_96 : decode cX7_set 96 = .ok (.getfield 59, 3) := by decide +kernel
theorem dX7_set_99 : decode cX7_set 99 = .ok (.iload_n 1, 1) := by decide +kernel
theorem dX7_set_100 : decode cX7_set 100 = .ok (.iaload, 1) := by decide +kernel
theorem dX7_set_101 : decode cX7_set 101 = .ok (.iconst 1, 1) := by decide +kernel
theorem dX7_set_102 : decode cX7_set 102 = .ok (.if_icmp .ne 10, 3) := by decide +kernel
theorem dX7_set_105 : decode cX7_set 105 = .ok (.lload_n 3, 1) := by decide +kernel
theorem dX7_set_106 : decode cX7_set 106 = .ok (.l2i, 1) := by decide +kernel
theorem dX7_set_107 : decode cX7_set 107 = .ok (.i2s, 1) := by decide +kernel
theorem dX7_set_108 : decode cX7_set 108 = .ok (.i2l, 1) := by decide +kernel
theorem dX7_set_109 : decode cX7_set 109 = .ok (.goto 20, 3) := by decide +kernel
theorem dX7_set_112 : decode cX7_set 112 = .ok (.aload_n 0, 1) := by decide +kernel
theorem dX7_set_113 : decode cX7_set 113 = .ok (.getfield 59, 3) := by decide +kernel
theorem dX7_set_116 : decode cX7_set 116 = .ok (.iload_n 1, 1) := by decide +kernel
theorem dX7_set_117 : decode cX7_set 117 = .ok (.iaload, 1) := by decide +kernel
theorem dX7_set_118 : decode cX7_set 118 = .ok (.iconst 2, 1) := by decide +kernel
theorem dX7_set_119 : decode cX7_set 119 = .ok (.if_icmp .ne 9, 3) := by decide +kernel
theorem dX7_set_122 : decode cX7_set 122 = .ok (.lload_n 3, 1) := by decide +kernel
theorem dX7_set_123 : decode cX7_set 123 = .ok (.l2i, 1) := by decide +kernel
theorem dX7_set_124 : decode cX7_set 124 = .ok (.i2l, 1) := by decide +kernel
theorem dX7_set_125 : decode cX7_set 125 = .ok (.goto 4, 3) := by decide +kernel
theorem dX7_set_128 : decode cX7_set 128 = .ok (.lload_n 3, 1) := by decide +kernel
theorem dX7_set_129 : decode cX7_set 129 = .ok (.lastore, 1) := by decide +kernel
theorem dX7_set_130 : decode cX7_set 130 = .ok (.iconst 1, 1) := by decide +kernel
theorem dX7_set_131 : decode cX7_set 131 = .ok (.ireturn, 1) := by decide +kernel
theorem dX7_copy_0 : decode cX7_copy 0 = .ok (.aload_n 0, 1) := by decide +kernel
theorem dX7_copy_1 : decode cX7_copy 1 = .ok (.iload_n 1, 1) := by decide +kernel
theorem dX7_copy_2 : decode cX7_copy 2 = .ok (.invokevirtual 105, 3) := by decide +kernel
theorem dX7_copy_5 : decode cX7_copy 5 = .ok (.ifCond .eq 11, 3) := by decide +kernel
theorem dX7_copy_8 : decode cX7_copy 8 = .ok (.aload_n 0, 1) := by decide +kernel
theorem dX7_copy_9 : decode cX7_copy 9 = .ok (.iload_n 2, 1) := by decide +kernel
theorem dX7_copy_10 : decode cX7_copy 10 = .ok (.invokevirtual 105, 3) := by decide +kernel
theorem dX7_copy_13 : decode cX7_copy 13 = .ok (.ifCond .ne 9, 3) := by decide +kernel
theorem dX7_copy_16 : decode cX7_copy 16 = .ok (.aload_n 0, 1) := by decide +kernel
theorem dX7_copy_17 : decode cX7_copy 17 = .ok (.iconst (-1), 1) := by decide +kernel
theorem dX7_copy_18 : decode cX7_copy 18 = .ok (.invokevirtual 109, 3) := by decide +kernel
theorem dX7_copy_21 : decode cX7_copy 21 = .ok (.ireturn, 1) := by decide +kernel
theorem dX7_copy_22 : decode cX7_copy 22 = .ok (.aload_n 0, 1) := by decide +kernel
theorem dX7_copy_23 : decode cX7_copy 23 = .ok (.getfield 56, 3) := by decide +kernel
theorem dX7_copy_26 : decode cX7_copy 26 = .ok (.iload_n 1, 1) := by decide +kernel
theorem dX7_copy_27 : decode cX7_copy 27 = .ok (.iaload, 1) := by decide +kernel
theorem dX7_copy_28 : decode cX7_copy 28 = .ok (.iconst 2, 1) := by decide +kernel
theorem dX7_copy_29 : decode cX7_copy 29 = .ok (.if_icmp .eq 48, 3) := by decide +kernel
theorem dX7_copy_32 : decode cX7_copy 32 = .ok (.aload_n 0, 1) := by decide +kernel
theorem dX7_copy_33 : decode cX7_copy 33 = .ok (.getfield 56, 3) := by decide +kernel
theorem dX7_copy_36 : decode cX7_copy 36 = .ok (.iload_n 2, 1) := by decide +kernel
theorem dX7_copy_37 : decode cX7_copy 37 = .ok (.iaload, 1) := by decide +kernel
theorem dX7_copy_38 : decode cX7_copy 38 = .ok (.iconst 2, 1) := by decide +kernel
theorem dX7_copy_39 : decode cX7_copy 39 = .ok (.if_icmp .eq 38, 3) := by decide +kernel
theorem dX7_copy_42 : decode cX7_copy 42 = .ok (.aload_n 0, 1) := by decide +kernel
theorem dX7_copy_43 : decode cX7_copy 43 = .ok (.getfield 56, 3) := by decide +kernel
theorem dX7_copy_46 : decode cX7_copy 46 = .ok (.iload_n 1, 1) := by decide +kernel
theorem dX7_copy_47 : decode cX7_copy 47 = .ok (.iaload, 1) := by decide +kernel
theorem dX7_copy_48 : decode cX7_copy 48 = .ok (.iconst 1, 1) := by decide +kernel
theorem dX7_copy_49 : decode cX7_copy 49 = .ok (.if_icmp .ne 35, 3) := by decide +kernel
theorem dX7_copy_52 : decode cX7_copy 52 = .ok (.aload_n 0, 1) := by decide +kernel
theorem dX7_copy_53 : decode cX7_copy 53 = .ok (.getfield 56, 3) := by decide +kernel
theorem dX7_copy_56 : decode cX7_copy 56 = .ok (.iload_n 2, 1) := by decide +kernel
theorem dX7_copy_57 : decode cX7_copy 57 = .ok (.iaload, 1) := by decide +kernel
theorem dX7_copy_58 : decode cX7_copy 58 = .ok (.iconst 1, 1) := by decide +kernel
theorem dX7_copy_59 : decode cX7_copy 59 = .ok (.if_icmp .ne 25, 3) := by decide +kernel
theorem dX7_copy_62 : decode cX7_copy 62 = .ok (.aload_n 0, 1) := by decide +kernel
theorem dX7_copy_63 : decode cX7_copy 63 = .ok (.getfield 59, 3) := by decide +kernel
theorem dX7_copy_66 : decode cX7_copy 66 = .ok (.iload_n 1, 1) := by decide +kernel
theorem dX7_copy_67 : decode cX7_copy 67 = .ok (.iaload, 1) := by decide +kernel
theorem dX7_copy_68 : decode cX7_copy 68 = .ok (.aload_n 0, 1) := by decide +kernel
theorem dX7_copy_69 : decode cX7_copy 69 = .ok (.getfield 59, 3) := by decide +kernel
theorem dX7_copy_72 : decode cX7_copy 72 = .ok (.iload_n 2, 1) := by decide +kernel
theorem dX7_copy_73 : decode cX7_copy 73 = .ok (.iaload, 1) := by decide +kernel
theorem dX7_copy_74 : decode cX7_copy 74 = .ok (.if_icmp .eq 10, 3) := by decide +kernel
theorem dX7_copy_77 : decode cX7_copy 77 = .ok (.aload_n 0, 1) := by decide +kernel
theorem dX7_copy_78 : decode cX7_copy 78 = .ok (.bipush (-2), 2) := by decide +kernel
theorem dX7_copy_80 : decode cX7_copy 80 = .ok (.invokevirtual 109, 3) := by decide +kernel
theorem dX7_copy_83 : decode cX7_copy 83 = .ok (.ireturn, 1) := by decide +kernel
theorem dX7_copy_84 : decode cX7_copy 84 = .ok (.aload_n 0, 1) := by decide +kernel
theorem dX7_copy_85 : decode cX7_copy 85 = .ok (.getfield 56, 3) := by decide +kernel
theorem dX7_copy_88 : decode cX7_copy 88 = .ok (.iload_n 1, 1) := by decide +kernel
theorem dX7_copy_89 : decode cX7_copy 89 = .ok (.iaload, 1) := by decide +kernel
theorem dX7_copy_90 : decode cX7_copy 90 = .ok (.ifCond .eq 12, 3) := by decide +kernel
theorem dX7_copy_93 : decode cX7_copy 93 = .ok (.aload_n 0, 1) := by decide +kernel
theorem dX7_copy_94 : decode cX7_copy 94 = .ok (.getfield 56, 3) := by decide +kernel
theorem dX7_copy_97 : decode cX7_copy 97 = .ok (.iload_n 2, 1) := by decide +kernel
theorem dX7_copy_98 : decode cX7_copy 98 = .ok (.iaload, 1) := by decide +kernel
theorem dX7_copy_99 : decode cX7_copy 99 = .ok (.ifCond .ne 10, 3) := by decide +kernel
theorem dX7_copy_102 : decode cX7_copy 102 = .ok (.aload_n 0, 1) := by decide +kernel
theorem dX7_copy_103 : decode cX7_copy 103 = .ok (.bipush (-3), 2) := by decide +kernel
theorem dX7_copy_105 : decode cX7_copy 105 = .ok (.invokevirtual 109, 3) := by decide +kernel
theorem dX7_copy_108 : decode cX7_copy 108 = .ok (.ireturn, 1) := by decide +kernel
theorem dX7_copy_109 : decode cX7_copy 109 = .ok (.iload 5, 2) := by decide +kernel
theorem dX7_copy_111 : decode cX7_copy 111 = .ok (.ifCond .ge 10, 3) := by decide +kernel
theorem dX7_copy_114 : decode cX7_copy 114 = .ok (.aload_n 0, 1) := by decide +kernel
theorem dX7_copy_115 : decode cX7_copy 115 = .ok (.bipush (-4), 2) := by decide +kernel
theorem dX7_copy_117 : decode cX7_copy 117 = .ok (.invokevirtual 109, 3) := by decide +kernel
theorem dX7_copy_120 : decode cX7_copy 120 = .ok (.ireturn, 1) := by decide +kernel
theorem dX7_copy_121 : decode cX7_copy 121 = .ok (.iload_n 3, 1) := by decide +kernel
theorem dX7_copy_122 : decode cX7_copy 122 = .ok (.ifCond .lt 35, 3) := by decide +kernel
theorem dX7_copy_125 : decode cX7_copy 125 = .ok (.iload 4, 2) := by decide +kernel
theorem dX7_copy_127 : decode cX7_copy 127 = .ok (.ifCond .lt 30, 3) := by decide +kernel
theorem dX7_copy_130 : decode cX7_copy 130 = .ok (.iload_n 3, 1) := by decide +kernel
theorem dX7_copy_131 : decode cX7_copy 131 = .ok (.aload_n 0, 1) := by decide +kernel
theorem dX7_copy_132 : decode cX7_copy 132 = .ok (.getfield 62, 3) := by decide +kernel
theorem dX7_copy_135 : decode cX7_copy 135 = .ok (.iload_n 1, 1) := by decide +kernel
theorem dX7_copy_136 : decode cX7_copy 136 = .ok (.iaload, 1) := by decide +kernel
theorem dX7_copy_137 : decode cX7_copy 137 = .ok (.iload 5, 2) := by decide +kernel
theorem dX7_copy_139 : decode cX7_copy 139 = .ok (.isub, 1) := by decide +kernel
theorem dX7_copy_140 : decode cX7_copy 140 = .ok (.if_icmp .gt 17, 3) := by decide +kernel
theorem dX7_copy_143 : decode cX7_copy 143 = .ok (.iload 4, 2) := by decide +kernel
theorem dX7_copy_145 : decode cX7_copy 145 = .ok (.aload_n 0, 1) := by decide +kernel
theorem dX7_copy_146 : decode cX7_copy 146 = .ok (.getfield 62, 3) := by decide +kernel
theorem dX7_copy_149 : decode cX7_copy 149 = .ok (.iload_n 2, 1) := by decide +kernel
theorem dX7_copy_150 : decode cX7_copy 150 = .ok (.iaload, 1) := by decide +kernel
theorem dX7_copy_151 : decode cX7_copy 151 = .ok (.iload 5, 2) := by decide +kernel
theorem dX7_copy_153 : decode cX7_copy 153 = .ok (.isub, 1) := by decide +kernel
theorem dX7_copy_154 : decode cX7_copy 154 = .ok (.if_icmp .le 10, 3) := by decide +kernel
theorem dX7_copy_157 : decode cX7_copy 157 = .ok (.aload_n 0, 1) := by decide +kernel
theorem dX7_copy_158 : decode cX7_copy 158 = .ok (.bipush (-5), 2) := by decide +kernel
theorem dX7_copy_160 : decode cX7_copy 160 = .ok (.invokevirtual 109, 3) := by decide +kernel
theorem dX7_copy_163 : decode cX7_copy 163 = .ok (.ireturn, 1) := by decide +kernel
theorem dX7_copy_164 : decode cX7_copy 164 = .ok (.iconst 0, 1) := by decide +kernel
theorem dX7_copy_165 : decode cX7_copy 165 = .ok (.istore 6, 2) := by decide +kernel
theorem dX7_copy_167 : decode cX7_copy 167 = .ok (.iload 6, 2) := by decide +kernel
theorem dX7_copy_169 : decode cX7_copy 169 = .ok (.iload 5, 2) := by decide +kernel
theorem dX7_copy_171 : decode cX7_copy 171 = .ok (.if_icmp .ge 31, 3) := by decide +kernel
theorem dX7_copy_174 : decode cX7_copy 174 = .ok (.aload_n 0, 1) := by decide +kernel
theorem dX7_copy_175 : decode cX7_copy 175 = .ok (.getfield 72, 3) := by decide +kernel
theorem dX7_copy_178 : decode cX7_copy 178 = .ok (.iload 6, 2) := by decide +kernel
theorem dX7_copy_180 : decode cX7_copy 180 = .ok (.aload_n 0, 1) := by decide +kernel
theorem dX7_copy_181 : decode cX7_copy 181 = .ok (.getfield 68, 3) := by decide +kernel
theorem dX7_copy_184 : decode cX7_copy 184 = .ok (.sipush 160, 3) := by decide +kernel
theorem dX7_copy_187 : decode cX7_copy 187 = .ok (.iload_n 1, 1) := by decide +kernel
theorem dX7_copy_188 : decode cX7_copy 188 = .ok (.imul, 1) := by decide +kernel
theorem dX7_copy_189 : decode cX7_copy 189 = .ok (.iload_n 3, 1) := by decide +kernel
theorem dX7_copy_190 : decode cX7_copy 190 = .ok (.iadd, 1) := by decide +kernel
theorem dX7_copy_191 : decode cX7_copy 191 = .ok (.iload 6, 2) := by decide +kernel
theorem dX7_copy_193 : decode cX7_copy 193 = .ok (.iadd, 1) := by decide +kernel
theorem dX7_copy_194 : decode cX7_copy 194 = .ok (.laload, 1) := by decide +kernel
theorem dX7_copy_195 : decode cX7_copy 195 = .ok (.lastore, 1) := by decide +kernel
theorem dX7_copy_196 : decode cX7_copy 196 = .ok (.iinc 6 1, 3) := by decide +kernel
theorem dX7_copy_199 : decode cX7_copy 199 = .ok (.goto (-32), 3) := by decide +kernel
theorem dX7_copy_202 : decode cX7_copy 202 = .ok (.iconst 0, 1) := by decide +kernel
theorem dX7_copy_203 : decode cX7_copy 203 = .ok (.istore 6, 2) := by decide +kernel
theorem dX7_copy_205 : decode cX7_copy 205 = .ok (.iload 6, 2) := by decide +kernel
theorem dX7_copy_207 : decode cX7_copy 207 = .ok (.iload 5, 2) := by decide +kernel
theorem dX7_copy_209 : decode cX7_copy 209 = .ok (.if_icmp .ge 32, 3) := by decide +kernel
theorem dX7_copy_212 : decode cX7_copy 212 = .ok (.aload_n 0, 1) := by decide +kernel
theorem dX7_copy_213 : decode cX7_copy 213 = .ok (.getfield 68, 3) := by decide +kernel
theorem dX7_copy_216 : decode cX7_copy 216 = .ok (.sipush 160, 3) := by decide +kernel
theorem dX7_copy_219 : decode cX7_copy 219 = .ok (.iload_n 2, 1) := by decide +kernel
theorem dX7_copy_220 : decode cX7_copy 220 = .ok (.imul, 1) := by decide +kernel
theorem dX7_copy_221 : decode cX7_copy 221 = .ok (.iload 4, 2) := by decide +kernel
theorem dX7_copy_223 : decode cX7_copy 223 = .ok (.iadd, 1) := by decide +kernel
theorem dX7_copy_224 : decode cX7_copy 224 = .ok (.iload 6, 2) := by decide +kernel
theorem dX7_copy_226 : decode cX7_copy 226 = .ok (.iadd, 1) := by decide +kernel
theorem dX7_copy_227 : decode cX7_copy 227 = .ok (.aload_n 0, 1) := by decide +kernel
theorem dX7_copy_228 : decode cX7_copy 228 = .ok (.getfield 72, 3) := by decide +kernel
theorem dX7_copy_231 : decode cX7_copy 231 = .ok (.iload 6, 2) := by decide +kernel
theorem dX7_copy_233 : decode cX7_copy 233 = .ok (.laload, 1) := by decide +kernel
theorem dX7_copy_234 : decode cX7_copy 234 = .ok (.lastore, 1) := by decide +kernel
theorem dX7_copy_235 : decode cX7_copy 235 = .ok (.iinc 6 1, 3) := by decide +kernel
theorem dX7_copy_238 : decode cX7_copy 238 = .ok (.goto (-33), 3) := by decide +kernel
theorem dX7_copy_241 : decode cX7_copy 241 = .ok (.iconst 1, 1) := by decide +kernel
theorem dX7_copy_242 : decode cX7_copy 242 = .ok (.ireturn, 1) := by decide +kernel
theorem dX7_element_0 : decode cX7_element 0 = .ok (.aload_n 0, 1) := by decide +kernel
theorem dX7_element_1 : decode cX7_element 1 = .ok (.iload_n 1, 1) := by decide +kernel
theorem dX7_element_2 : decode cX7_element 2 = .ok (.invokevirtual 105, 3) := by decide +kernel
theorem dX7_element_5 : decode cX7_element 5 = .ok (.ifCond .eq 42, 3) := by decide +kernel
theorem dX7_element_8 : decode cX7_element 8 = .ok (.aload_n 0, 1) := by decide +kernel
theorem dX7_element_9 : decode cX7_element 9 = .ok (.getfield 56, 3) := by decide +kernel
theorem dX7_element_12 : decode cX7_element 12 = .ok (.iload_n 1, 1) := by decide +kernel
theorem dX7_element_13 : decode cX7_element 13 = .ok (.iaload, 1) := by decide +kernel
theorem dX7_element_14 : decode cX7_element 14 = .ok (.iconst 1, 1) := by decide +kernel
theorem dX7_element_15 : decode cX7_element 15 = .ok (.if_icmp .ne 32, 3) := by decide +kernel
theorem dX7_element_18 : decode cX7_element 18 = .ok (.iload_n 2, 1) := by decide +kernel
theorem dX7_element_19 : decode cX7_element 19 = .ok (.ifCond .lt 28, 3) := by decide +kernel
theorem dX7_element_22 : decode cX7_element 22 = .ok (.iload_n 2, 1) := by decide +kernel
theorem dX7_element_23 : decode cX7_element 23 = .ok (.aload_n 0, 1) := by decide +kernel
theorem dX7_element_24 : decode cX7_element 24 = .ok (.getfield 62, 3) := by decide +kernel
theorem dX7_element_27 : decode cX7_element 27 = .ok (.iload_n 1, 1) := by decide +kernel
theorem dX7_element_28 : decode cX7_element 28 = .ok (.iaload, 1) := by decide +kernel
theorem dX7_element_29 : decode cX7_element 29 = .ok (.if_icmp .ge 18, 3) := by decide +kernel
theorem dX7_element_32 : decode cX7_element 32 = .ok (.aload_n 0, 1) := by decide +kernel
theorem dX7_element_33 : decode cX7_element 33 = .ok (.getfield 68, 3) := by decide +kernel
theorem dX7_element_36 : decode cX7_element 36 = .ok (.sipush 160, 3) := by decide +kernel
theorem dX7_element_39 : decode cX7_element 39 = .ok (.iload_n 1, 1) := by decide +kernel
theorem dX7_element_40 : decode cX7_element 40 = .ok (.imul, 1) := by decide +kernel
theorem dX7_element_41 : decode cX7_element 41 = .ok (.iload_n 2, 1) := by decide +kernel
theorem dX7_element_42 : decode cX7_element 42 = .ok (.iadd, 1) := by decide +kernel
theorem dX7_element_43 : decode cX7_element 43 = .ok (.laload, 1) := by decide +kernel
theorem dX7_element_44 : decode cX7_element 44 = .ok (.goto 4, 3) := by decide +kernel
theorem dX7_element_47 : decode cX7_element 47 = .ok (.lconst 0, 1) := by decide +kernel
theorem dX7_element_48 : decode cX7_element 48 = .ok (.lreturn, 1) := by decide +kernel
theorem dX7_show_0 : decode cX7_show 0 = .ok (.aload_n 0, 1) := by decide +kernel
theorem dX7_show_1 : decode cX7_show 1 = .ok (.iload_n 1, 1) := by decide +kernel
theorem dX7_show_2 : decode cX7_show 2 = .ok (.invokevirtual 105, 3) := by decide +kernel
theorem dX7_show_5 : decode cX7_show 5 = .ok (.ifCond .eq 16, 3) := by decide +kernel
theorem dX7_show_8 : decode cX7_show 8 = .ok (.iload_n 2, 1) := by decide +kernel
theorem dX7_show_9 : decode cX7_show 9 = .ok (.iconst (-1), 1) := by decide +kernel
theorem dX7_show_10 : decode cX7_show 10 = .ok (.if_icmp .eq 17, 3) := by decide +kernel
theorem dX7_show_13 : decode cX7_show 13 = .ok (.aload_n 0, 1) := by decide +kernel
theorem dX7_show_14 : decode cX7_show 14 = .ok (.iload_n 2, 1) := by decide +kernel
theorem dX7_show_15 : decode cX7_show 15 = .ok (.invokevirtual 113, 3) := by decide +kernel
theorem dX7_show_18 : decode cX7_show 18 = .ok (.ifCond .ne 9, 3) := by decide +kernel
theorem dX7_show_21 : decode cX7_show 21 = .ok (.aload_n 0, 1) := by decide +kernel
theorem dX7_show_22 : decode cX7_show 22 = .ok (.iconst (-1), 1) := by decide +kernel
theorem dX7_show_23 : decode cX7_show 23 = .ok (.invokevirtual 109, 3) := by decide +kernel
theorem dX7_show_26 : decode cX7_show 26 = .ok (.ireturn, 1) := by decide +kernel
theorem dX7_show_27 : decode cX7_show 27 = .ok (.aload_n 0, 1) := by decide +kernel
theorem dX7_show_28 : decode cX7_show 28 = .ok (.getfield 56, 3) := by decide +kernel
theorem dX7_show_31 : decode cX7_show 31 = .ok (.iload_n 1, 1) := by decide +kernel
theorem dX7_show_32 : decode cX7_show 32 = .ok (.iload_n 2, 1) := by decide +kernel
theorem dX7_show_33 : decode cX7_show 33 = .ok (.iconst (-1), 1) := by decide +kernel
theorem dX7_show_34 : decode cX7_show 34 = .ok (.if_icmp .ne 7, 3) := by decide +kernel
theorem dX7_show_37 : decode cX7_show 37 = .ok (.iconst 0, 1) := by decide +kernel
theorem dX7_show_38 : decode cX7_show 38 = .ok (.goto 4, 3) := by decide +kernel
theorem dX7_show_41 : decode cX7_show 41 = .ok (.iconst 2, 1) := by decide +kernel
theorem dX7_show_42 : decode cX7_show 42 = .ok (.iastore, 1) := by decide +kernel
theorem dX7_show_43 : decode cX7_show 43 = .ok (.aload_n 0, 1) := by decide +kernel
theorem dX7_show_44 : decode cX7_show 44 = .ok (.getfield 65, 3) := by decide +kernel
theorem dX7_show_47 : decode cX7_show 47 = .ok (.iload_n 1, 1) := by decide +kernel
theorem dX7_show_48 : decode cX7_show 48 = .ok (.iload_n 2, 1) := by decide +kernel
theorem dX7_show_49 : decode cX7_show 49 = .ok (.iastore, 1) := by decide +kernel
theorem dX7_show_50 : decode cX7_show 50 = .ok (.iload_n 2, 1) := by decide +kernel
theorem dX7_show_51 : decode cX7_show 51 = .ok (.iconst (-1), 1) := by decide +kernel
theorem dX7_show_52 : decode cX7_show 52 = .ok (.if_icmp .ne 7, 3) := by decide +kernel
theorem dX7_show_55 : decode cX7_show 55 = .ok (.iconst 0, 1) := by decide +kernel
theorem dX7_show_56 : decode cX7_show 56 = .ok (.goto 4, 3) := by decide +kernel
theorem dX7_show_59 : decode cX7_show 59 = .ok (.iconst 1, 1) := by decide +kernel
theorem dX7_show_60 : decode cX7_show 60 = .ok (.ireturn, 1) := by decide +kernel
theorem dX7_holds_0 : decode cX7_holds 0 = .ok (.aload_n 0, 1) := by decide +kernel
theorem dX7_holds_1 : decode cX7_holds 1 = .ok (.iload_n 1, 1) := by decide +kernel
theorem dX7_holds_2 : decode cX7_holds 2 = .ok (.invokevirtual 105, 3) := by decide +kernel
theorem dX7_holds_5 : decode cX7_holds 5 = .ok (.ifCond .eq 12, 3) := by decide +kernel
theorem dX7_holds_8 : decode cX7_holds 8 = .ok (.aload_n 0, 1) := by decide +kernel
theorem dX7_holds_9 : decode cX7_holds 9 = .ok (.getfield 56, 3) := by decide +kernel
theorem dX7_holds_12 : decode cX7_holds 12 = .ok (.iload_n 1, 1) := by decide +kernel
theorem dX7_holds_13 : decode cX7_holds 13 = .ok (.iaload, 1) := by decide +kernel
theorem dX7_holds_14 : decode cX7_holds 14 = .ok (.ifCond .ne 5, 3) := by decide +kernel
theorem dX7_holds_17 : decode cX7_holds 17 = .ok (.iconst (-1), 1) := by decide +kernel
theorem dX7_holds_18 : decode cX7_holds 18 = .ok (.ireturn, 1) := by decide +kernel
theorem dX7_holds_19 : decode cX7_holds 19 = .ok (.aload_n 0, 1) := by decide +kernel
theorem dX7_holds_20 : decode cX7_holds 20 = .ok (.getfield 56, 3) := by decide +kernel
theorem dX7_holds_23 : decode cX7_holds 23 = .ok (.iload_n 1, 1) := by decide +kernel
theorem dX7_holds_24 : decode cX7_holds 24 = .ok (.iaload, 1) := by decide +kernel
theorem dX7_holds_25 : decode cX7_holds 25 = .ok (.iconst 1, 1) := by decide +kernel
theorem dX7_holds_26 : decode cX7_holds 26 = .ok (.if_icmp .ne 15, 3) := by decide +kernel
theorem dX7_holds_29 : decode cX7_holds 29 = .ok (.bipush 100, 2) := by decide +kernel
theorem dX7_holds_31 : decode cX7_holds 31 = .ok (.aload_n 0, 1) := by decide +kernel
theorem dX7_holds_32 : decode cX7_holds 32 = .ok (.getfield 59, 3) := by decide +kernel
theorem dX7_holds_35 : decode cX7_holds 35 = .ok (.iload_n 1, 1) := by decide +kernel
theorem dX7_holds_36 : decode cX7_holds 36 = .ok (.iaload, 1) := by decide +kernel
theorem dX7_holds_37 : decode cX7_holds 37 = .ok (.iadd, 1) := by decide +kernel
theorem dX7_holds_38 : decode cX7_holds 38 = .ok (.goto 9, 3) := by decide +kernel
theorem dX7_holds_41 : decode cX7_holds 41 = .ok (.aload_n 0, 1) := by decide +kernel
theorem dX7_holds_42 : decode cX7_holds 42 = .ok (.getfield 65, 3) := by decide +kernel
theorem dX7_holds_45 : decode cX7_holds 45 = .ok (.iload_n 1, 1) := by decide +kernel
theorem dX7_holds_46 : decode cX7_holds 46 = .ok (.iaload, 1) := by decide +kernel
theorem dX7_holds_47 : decode cX7_holds 47 = .ok (.ireturn, 1) := by decide +kernel
theorem dX7_isUnder_0 : decode cX7_isUnder 0 = .ok (.iload_n 2, 1) := by decide +kernel
theorem dX7_isUnder_1 : decode cX7_isUnder 1 = .ok (.ifCond .eq 45, 3) := by decide +kernel
theorem dX7_isUnder_4 : decode cX7_isUnder 4 = .ok (.iload_n 2, 1) := by decide +kernel
theorem dX7_isUnder_5 : decode cX7_isUnder 5 = .ok (.iload_n 1, 1) := by decide +kernel
theorem dX7_isUnder_6 : decode cX7_isUnder 6 = .ok (.if_icmp .eq 40, 3) := by decide +kernel
theorem dX7_isUnder_9 : decode cX7_isUnder 9 = .ok (.iload_n 2, 1) := by decide +kernel
theorem dX7_isUnder_10 : decode cX7_isUnder 10 = .ok (.iconst 1, 1) := by decide +kernel
theorem dX7_isUnder_11 : decode cX7_isUnder 11 = .ok (.if_icmp .ne 14, 3) := by decide +kernel
theorem dX7_isUnder_14 : decode cX7_isUnder 14 = .ok (.iload_n 1, 1) := by decide +kernel
theorem dX7_isUnder_15 : decode cX7_isUnder 15 = .ok (.iconst 3, 1) := by decide +kernel
theorem dX7_isUnder_16 : decode cX7_isUnder 16 = .ok (.if_icmp .eq 30, 3) := by decide +kernel
theorem dX7_isUnder_19 : decode cX7_isUnder 19 = .ok (.iload_n 1, 1) := by decide +kernel
theorem dX7_isUnder_20 : decode cX7_isUnder 20 = .ok (.bipush 6, 2) := by decide +kernel
theorem dX7_isUnder_22 : decode cX7_isUnder 22 = .ok (.if_icmp .eq 24, 3) := by decide +kernel
theorem dX7_isUnder_25 : decode cX7_isUnder 25 = .ok (.iload_n 2, 1) := by decide +kernel
theorem dX7_isUnder_26 : decode cX7_isUnder 26 = .ok (.iconst 3, 1) := by decide +kernel
theorem dX7_isUnder_27 : decode cX7_isUnder 27 = .ok (.if_icmp .ne 9, 3) := by decide +kernel
theorem dX7_isUnder_30 : decode cX7_isUnder 30 = .ok (.iload_n 1, 1) := by decide +kernel
theorem dX7_isUnder_31 : decode cX7_isUnder 31 = .ok (.bipush 6, 2) := by decide +kernel
theorem dX7_isUnder_33 : decode cX7_isUnder 33 = .ok (.if_icmp .eq 13, 3) := by decide +kernel
theorem dX7_isUnder_36 : decode cX7_isUnder 36 = .ok (.iload_n 2, 1) := by decide +kernel
theorem dX7_isUnder_37 : decode cX7_isUnder 37 = .ok (.iconst 2, 1) := by decide +kernel
theorem dX7_isUnder_38 : decode cX7_isUnder 38 = .ok (.if_icmp .ne 12, 3) := by decide +kernel
theorem dX7_isUnder_41 : decode cX7_isUnder 41 = .ok (.iload_n 1, 1) := by decide +kernel
theorem dX7_isUnder_42 : decode cX7_isUnder 42 = .ok (.iconst 4, 1) := by decide +kernel
theorem dX7_isUnder_43 : decode cX7_isUnder 43 = .ok (.if_icmp .ne 7, 3) := by decide +kernel
theorem dX7_isUnder_46 : decode cX7_isUnder 46 = .ok (.iconst 1, 1) := by decide +kernel
theorem dX7_isUnder_47 : decode cX7_isUnder 47 = .ok (.goto 4, 3) := by decide +kernel
theorem dX7_isUnder_50 : decode cX7_isUnder 50 = .ok (.iconst 0, 1) := by decide +kernel
theorem dX7_isUnder_51 : decode cX7_isUnder 51 = .ok (.ireturn, 1) := by decide +kernel
theorem dX7_says_0 : decode cX7_says 0 = .ok (.aload_n 0, 1) := by decide +kernel
theorem dX7_says_1 : decode cX7_says 1 = .ok (.iload_n 1, 1) := by decide +kernel
theorem dX7_says_2 : decode cX7_says 2 = .ok (.invokevirtual 105, 3) := by decide +kernel
theorem dX7_says_5 : decode cX7_says 5 = .ok (.ifCond .eq 13, 3) := by decide +kernel
theorem dX7_says_8 : decode cX7_says 8 = .ok (.iload_n 2, 1) := by decide +kernel
theorem dX7_says_9 : decode cX7_says 9 = .ok (.ifCond .lt 9, 3) := by decide +kernel
theorem dX7_says_12 : decode cX7_says 12 = .ok (.iload_n 2, 1) := by decide +kernel
theorem dX7_says_13 : decode cX7_says 13 = .ok (.bipush 6, 2) := by decide +kernel
theorem dX7_says_15 : decode cX7_says 15 = .ok (.if_icmp .le 9, 3) := by decide +kernel
theorem dX7_says_18 : decode cX7_says 18 = .ok (.aload_n 0, 1) := by decide +kernel
theorem dX7_says_19 : decode cX7_says 19 = .ok (.iconst (-1), 1) := by decide +kernel
theorem dX7_says_20 : decode cX7_says 20 = .ok (.invokevirtual 109, 3) := by decide +kernel
theorem dX7_says_23 : decode cX7_says 23 = .ok (.ireturn, 1) := by decide +kernel
theorem dX7_says_24 : decode cX7_says 24 = .ok (.aload_n 0, 1) := by decide +kernel
theorem dX7_says_25 : decode cX7_says 25 = .ok (.getfield 56, 3) := by decide +kernel
theorem dX7_says_28 : decode cX7_says 28 = .ok (.iload_n 1, 1) := by decide +kernel
theorem dX7_says_29 : decode cX7_says 29 = .ok (.iaload, 1) := by decide +kernel
theorem dX7_says_30 : decode cX7_says 30 = .ok (.iconst 1, 1) := by decide +kernel
theorem dX7_says_31 : decode cX7_says 31 = .ok (.if_icmp .ne 10, 3) := by decide +kernel
theorem dX7_says_34 : decode cX7_says 34 = .ok (.aload_n 0, 1) := by decide +kernel
theorem dX7_says_35 : decode cX7_says 35 = .ok (.bipush (-2), 2) := by decide +kernel
theorem dX7_says_37 : decode cX7_says 37 = .ok (.invokevirtual 109, 3) := by decide +kernel
theorem dX7_says_40 : decode cX7_says 40 = .ok (.ireturn, 1) := by decide +kernel
theorem dX7_says_41 : decode cX7_says 41 = .ok (.aload_n 0, 1) := by decide +kernel
theorem dX7_says_42 : decode cX7_says 42 = .ok (.getfield 56, 3) := by decide +kernel
theorem dX7_says_45 : decode cX7_says 45 = .ok (.iload_n 1, 1) := by decide +kernel
theorem dX7_says_46 : decode cX7_says 46 = .ok (.iaload, 1) := by decide +kernel
theorem dX7_says_47 : decode cX7_says 47 = .ok (.ifCond .ne 10, 3) := by decide +kernel
theorem dX7_says_50 : decode cX7_says 50 = .ok (.aload_n 0, 1) := by decide +kernel
theorem dX7_says_51 : decode cX7_says 51 = .ok (.bipush (-3), 2) := by decide +kernel
theorem dX7_says_53 : decode cX7_says 53 = .ok (.invokevirtual 109, 3) := by decide +kernel
theorem dX7_says_56 : decode cX7_says 56 = .ok (.ireturn, 1) := by decide +kernel
theorem dX7_says_57 : decode cX7_says 57 = .ok (.aload_n 0, 1) := by decide +kernel
theorem dX7_says_58 : decode cX7_says 58 = .ok (.getfield 65, 3) := by decide +kernel
theorem dX7_says_61 : decode cX7_says 61 = .ok (.iload_n 1, 1) := by decide +kernel
theorem dX7_says_62 : decode cX7_says 62 = .ok (.iaload, 1) := by decide +kernel
theorem dX7_says_63 : decode cX7_says 63 = .ok (.istore_n 3, 1) := by decide +kernel
theorem dX7_says_64 : decode cX7_says 64 = .ok (.aload_n 0, 1) := by decide +kernel
theorem dX7_says_65 : decode cX7_says 65 = .ok (.aload_n 0, 1) := by decide +kernel
theorem dX7_says_66 : decode cX7_says 66 = .ok (.getfield 29, 3) := by decide +kernel
theorem dX7_says_69 : decode cX7_says 69 = .ok (.iload_n 3, 1) := by decide +kernel
theorem dX7_says_70 : decode cX7_says 70 = .ok (.iaload, 1) := by decide +kernel
theorem dX7_says_71 : decode cX7_says 71 = .ok (.iload_n 2, 1) := by decide +kernel
theorem dX7_says_72 : decode cX7_says 72 = .ok (.invokevirtual 116, 3) := by decide +kernel
theorem dX7_says_75 : decode cX7_says 75 = .ok (.ifCond .ne 10, 3) := by decide +kernel
theorem dX7_says_78 : decode cX7_says 78 = .ok (.aload_n 0, 1) := by decide +kernel
theorem dX7_says_79 : decode cX7_says 79 = .ok (.bipush (-2), 2) := by decide +kernel
theorem dX7_says_81 : decode cX7_says 81 = .ok (.invokevirtual 109, 3) := by decide +kernel
theorem dX7_says_84 : decode cX7_says 84 = .ok (.ireturn, 1) := by decide +kernel
theorem dX7_says_85 : decode cX7_says 85 = .ok (.iload_n 2, 1) := by decide +kernel
theorem dX7_says_86 : decode cX7_says 86 = .ok (.tableswitch 59 0 5 #[38, 59, 45, 59, 45, 52], 38) := by decide +kernel
theorem dX7_says_124 : decode cX7_says 124 = .ok (.aload_n 0, 1) := by decide +kernel
theorem dX7_says_125 : decode cX7_says 125 = .ok (.getfield 35, 3) := by decide +kernel
theorem dX7_says_128 : decode cX7_says 128 = .ok (.iload_n 3, 1) := by decide +kernel
theorem dX7_says_129 : decode cX7_says 129 = .ok (.iaload, 1) := by decide +kernel
theorem dX7_says_130 : decode cX7_says 130 = .ok (.ireturn, 1) := by decide +kernel
theorem dX7_says_131 : decode cX7_says 131 = .ok (.aload_n 0, 1) := by decide +kernel
theorem dX7_says_132 : decode cX7_says 132 = .ok (.getfield 44, 3) := by decide +kernel
theorem dX7_says_135 : decode cX7_says 135 = .ok (.iload_n 3, 1) := by decide +kernel
theorem dX7_says_136 : decode cX7_says 136 = .ok (.iaload, 1) := by decide +kernel
theorem dX7_says_137 : decode cX7_says 137 = .ok (.ireturn, 1) := by decide +kernel
theorem dX7_says_138 : decode cX7_says 138 = .ok (.aload_n 0, 1) := by decide +kernel
theorem dX7_says_139 : decode cX7_says 139 = .ok (.getfield 32, 3) := by decide +kernel
theorem dX7_says_142 : decode cX7_says 142 = .ok (.iload_n 3, 1) := by decide +kernel
theorem dX7_says_143 : decode cX7_says 143 = .ok (.iaload, 1) := by decide +kernel
theorem dX7_says_144 : decode cX7_says 144 = .ok (.ireturn, 1) := by decide +kernel
theorem dX7_says_145 : decode cX7_says 145 = .ok (.aload_n 0, 1) := by decide +kernel
theorem dX7_says_146 : decode cX7_says 146 = .ok (.getfield 50, 3) := by decide +kernel
theorem dX7_says_149 : decode cX7_says 149 = .ok (.iload_n 3, 1) := by decide +kernel
theorem dX7_says_150 : decode cX7_says 150 = .ok (.iaload, 1) := by decide +kernel
theorem dX7_says_151 : decode cX7_says 151 = .ok (.ireturn, 1) := by decide +kernel
theorem dX7_wanted_0 : decode cX7_wanted 0 = .ok (.aload_n 0, 1) := by decide +kernel
theorem dX7_wanted_1 : decode cX7_wanted 1 = .ok (.iload_n 1, 1) := by decide +kernel
theorem dX7_wanted_2 : decode cX7_wanted 2 = .ok (.invokevirtual 105, 3) := by decide +kernel
theorem dX7_wanted_5 : decode cX7_wanted 5 = .ok (.ifCond .ne 7, 3) := by decide +kernel
theorem dX7_wanted_8 : decode cX7_wanted 8 = .ok (.iconst (-1), 1) := by decide +kernel
theorem dX7_wanted_9 : decode cX7_wanted 9 = .ok (.goto 33, 3) := by decide +kernel
theorem dX7_wanted_12 : decode cX7_wanted 12 = .ok (.aload_n 0, 1) := by decide +kernel
theorem dX7_wanted_13 : decode cX7_wanted 13 = .ok (.getfield 56, 3) := by decide +kernel
theorem dX7_wanted_16 : decode cX7_wanted 16 = .ok (.iload_n 1, 1) := by decide +kernel
theorem dX7_wanted_17 : decode cX7_wanted 17 = .ok (.iaload, 1) := by decide +kernel
theorem dX7_wanted_18 : decode cX7_wanted 18 = .ok (.iconst 2, 1) := by decide +kernel
theorem dX7_wanted_19 : decode cX7_wanted 19 = .ok (.if_icmp .ne 8, 3) := by decide +kernel
theorem dX7_wanted_22 : decode cX7_wanted 22 = .ok (.bipush (-2), 2) := by decide +kernel
theorem dX7_wanted_24 : decode cX7_wanted 24 = .ok (.goto 18, 3) := by decide +kernel
theorem dX7_wanted_27 : decode cX7_wanted 27 = .ok (.aload_n 0, 1) := by decide +kernel
theorem dX7_wanted_28 : decode cX7_wanted 28 = .ok (.getfield 56, 3) := by decide +kernel
theorem dX7_wanted_31 : decode cX7_wanted 31 = .ok (.iload_n 1, 1) := by decide +kernel
theorem dX7_wanted_32 : decode cX7_wanted 32 = .ok (.iaload, 1) := by decide +kernel
theorem dX7_wanted_33 : decode cX7_wanted 33 = .ok (.ifCond .ne 8, 3) := by decide +kernel
theorem dX7_wanted_36 : decode cX7_wanted 36 = .ok (.bipush (-3), 2) := by decide +kernel
theorem dX7_wanted_38 : decode cX7_wanted 38 = .ok (.goto 4, 3) := by decide +kernel
theorem dX7_wanted_41 : decode cX7_wanted 41 = .ok (.iconst 0, 1) := by decide +kernel
theorem dX7_wanted_42 : decode cX7_wanted 42 = .ok (.ireturn, 1) := by decide +kernel
theorem dX7_intAt_0 : decode cX7_intAt 0 = .ok (.aload_n 0, 1) := by decide +kernel
theorem dX7_intAt_1 : decode cX7_intAt 1 = .ok (.getfield 68, 3) := by decide +kernel
theorem dX7_intAt_4 : decode cX7_intAt 4 = .ok (.sipush 160, 3) := by decide +kernel
theorem dX7_intAt_7 : decode cX7_intAt 7 = .ok (.iload_n 1, 1) := by decide +kernel
theorem dX7_intAt_8 : decode cX7_intAt 8 = .ok (.imul, 1) := by decide +kernel
theorem dX7_intAt_9 : decode cX7_intAt 9 = .ok (.iload_n 2, 1) := by decide +kernel
theorem dX7_intAt_10 : decode cX7_intAt 10 = .ok (.iadd, 1) := by decide +kernel
theorem dX7_intAt_11 : decode cX7_intAt 11 = .ok (.laload, 1) := by decide +kernel
theorem dX7_intAt_12 : decode cX7_intAt 12 = .ok (.l2i, 1) := by decide +kernel
theorem dX7_intAt_13 : decode cX7_intAt 13 = .ok (.ireturn, 1) := by decide +kernel
theorem dX7_adds_0 : decode cX7_adds 0 = .ok (.aload_n 0, 1) := by decide +kernel
theorem dX7_adds_1 : decode cX7_adds 1 = .ok (.getfield 29, 3) := by decide +kernel
theorem dX7_adds_4 : decode cX7_adds 4 = .ok (.aload_n 0, 1) := by decide +kernel
theorem dX7_adds_5 : decode cX7_adds 5 = .ok (.getfield 102, 3) := by decide +kernel
theorem dX7_adds_8 : decode cX7_adds 8 = .ok (.iload_n 1, 1) := by decide +kernel
theorem dX7_adds_9 : decode cX7_adds 9 = .ok (.iastore, 1) := by decide +kernel
theorem dX7_adds_10 : decode cX7_adds 10 = .ok (.aload_n 0, 1) := by decide +kernel
theorem dX7_adds_11 : decode cX7_adds 11 = .ok (.getfield 32, 3) := by decide +kernel
theorem dX7_adds_14 : decode cX7_adds 14 = .ok (.aload_n 0, 1) := by decide +kernel
theorem dX7_adds_15 : decode cX7_adds 15 = .ok (.getfield 102, 3) := by decide +kernel
theorem dX7_adds_18 : decode cX7_adds 18 = .ok (.iload_n 2, 1) := by decide +kernel
theorem dX7_adds_19 : decode cX7_adds 19 = .ok (.iastore, 1) := by decide +kernel
theorem dX7_adds_20 : decode cX7_adds 20 = .ok (.aload_n 0, 1) := by decide +kernel
theorem dX7_adds_21 : decode cX7_adds 21 = .ok (.getfield 35, 3) := by decide +kernel
theorem dX7_adds_24 : decode cX7_adds 24 = .ok (.aload_n 0, 1) := by decide +kernel
theorem dX7_adds_25 : decode cX7_adds 25 = .ok (.getfield 102, 3) := by decide +kernel
theorem dX7_adds_28 : decode cX7_adds 28 = .ok (.iload_n 3, 1) := by decide +kernel
theorem dX7_adds_29 : decode cX7_adds 29 = .ok (.iastore, 1) := by decide +kernel
theorem dX7_adds_30 : decode cX7_adds 30 = .ok (.aload_n 0, 1) := by decide +kernel
theorem dX7_adds_31 : decode cX7_adds 31 = .ok (.getfield 38, 3) := by decide +kernel
theorem dX7_adds_34 : decode cX7_adds 34 = .ok (.aload_n 0, 1) := by decide +kernel
theorem dX7_adds_35 : decode cX7_adds 35 = .ok (.getfield 102, 3) := by decide +kernel
theorem dX7_adds_38 : decode cX7_adds 38 = .ok (.iload 4, 2) := by decide +kernel
theorem dX7_adds_40 : decode cX7_adds 40 = .ok (.iastore, 1) := by decide +kernel
theorem dX7_adds_41 : decode cX7_adds 41 = .ok (.aload_n 0, 1) := by decide +kernel
theorem dX7_adds_42 : decode cX7_adds 42 = .ok (.getfield 41, 3) := by decide +kernel
theorem dX7_adds_45 : decode cX7_adds 45 = .ok (.aload_n 0, 1) := by decide +kernel
theorem dX7_adds_46 : decode cX7_adds 46 = .ok (.getfield 102, 3) := by decide +kernel
theorem dX7_adds_49 : decode cX7_adds 49 = .ok (.iconst (-1), 1) := by decide +kernel
theorem dX7_adds_50 : decode cX7_adds 50 = .ok (.iastore, 1) := by decide +kernel
theorem dX7_adds_51 : decode cX7_adds 51 = .ok (.aload_n 0, 1) := by decide +kernel
theorem dX7_adds_52 : decode cX7_adds 52 = .ok (.getfield 44, 3) := by decide +kernel
theorem dX7_adds_55 : decode cX7_adds 55 = .ok (.aload_n 0, 1) := by decide +kernel
theorem dX7_adds_56 : decode cX7_adds 56 = .ok (.getfield 102, 3) := by decide +kernel
theorem dX7_adds_59 : decode cX7_adds 59 = .ok (.iconst 0, 1) := by decide +kernel
theorem dX7_adds_60 : decode cX7_adds 60 = .ok (.iastore, 1) := by decide +kernel
theorem dX7_adds_61 : decode cX7_adds 61 = .ok (.aload_n 0, 1) := by decide +kernel
theorem dX7_adds_62 : decode cX7_adds 62 = .ok (.getfield 47, 3) := by decide +kernel
theorem dX7_adds_65 : decode cX7_adds 65 = .ok (.aload_n 0, 1) := by decide +kernel
theorem dX7_adds_66 : decode cX7_adds 66 = .ok (.getfield 102, 3) := by decide +kernel
theorem dX7_adds_69 : decode cX7_adds 69 = .ok (.iconst 0, 1) := by decide +kernel
theorem dX7_adds_70 : decode cX7_adds 70 = .ok (.iastore, 1) := by decide +kernel
theorem dX7_adds_71 : decode cX7_adds 71 = .ok (.aload_n 0, 1) := by decide +kernel
theorem dX7_adds_72 : decode cX7_adds 72 = .ok (.getfield 50, 3) := by decide +kernel
theorem dX7_adds_75 : decode cX7_adds 75 = .ok (.aload_n 0, 1) := by decide +kernel
theorem dX7_adds_76 : decode cX7_adds 76 = .ok (.getfield 102, 3) := by decide +kernel
theorem dX7_adds_79 : decode cX7_adds 79 = .ok (.iconst 0, 1) := by decide +kernel
theorem dX7_adds_80 : decode cX7_adds 80 = .ok (.iastore, 1) := by decide +kernel
theorem dX7_adds_81 : decode cX7_adds 81 = .ok (.aload_n 0, 1) := by decide +kernel
theorem dX7_adds_82 : decode cX7_adds 82 = .ok (.getfield 53, 3) := by decide +kernel
theorem dX7_adds_85 : decode cX7_adds 85 = .ok (.aload_n 0, 1) := by decide +kernel
theorem dX7_adds_86 : decode cX7_adds 86 = .ok (.getfield 102, 3) := by decide +kernel
theorem dX7_adds_89 : decode cX7_adds 89 = .ok (.iconst 0, 1) := by decide +kernel
theorem dX7_adds_90 : decode cX7_adds 90 = .ok (.iastore, 1) := by decide +kernel
theorem dX7_adds_91 : decode cX7_adds 91 = .ok (.aload_n 0, 1) := by decide +kernel
theorem dX7_adds_92 : decode cX7_adds 92 = .ok (.dup, 1) := by decide +kernel
theorem dX7_adds_93 : decode cX7_adds 93 = .ok (.getfield 102, 3) := by decide +kernel
theorem dX7_adds_96 : decode cX7_adds 96 = .ok (.dup_x1, 1) := by decide +kernel
theorem dX7_adds_97 : decode cX7_adds 97 = .ok (.iconst 1, 1) := by decide +kernel
theorem dX7_adds_98 : decode cX7_adds 98 = .ok (.iadd, 1) := by decide +kernel
theorem dX7_adds_99 : decode cX7_adds 99 = .ok (.putfield 102, 3) := by decide +kernel
theorem dX7_adds_102 : decode cX7_adds 102 = .ok (.ireturn, 1) := by decide +kernel
theorem dX7_person_0 : decode cX7_person 0 = .ok (.iload_n 1, 1) := by decide +kernel
theorem dX7_person_1 : decode cX7_person 1 = .ok (.ifCond .lt 9, 3) := by decide +kernel
theorem dX7_person_4 : decode cX7_person 4 = .ok (.iload_n 1, 1) := by decide +kernel
theorem dX7_person_5 : decode cX7_person 5 = .ok (.bipush 6, 2) := by decide +kernel
theorem dX7_person_7 : decode cX7_person 7 = .ok (.if_icmp .le 9, 3) := by decide +kernel
theorem dX7_person_10 : decode cX7_person 10 = .ok (.aload_n 0, 1) := by decide +kernel
theorem dX7_person_11 : decode cX7_person 11 = .ok (.iconst (-1), 1) := by decide +kernel
theorem dX7_person_12 : decode cX7_person 12 = .ok (.invokevirtual 109, 3) := by decide +kernel
theorem dX7_person_15 : decode cX7_person 15 = .ok (.ireturn, 1) := by decide +kernel
theorem dX7_person_16 : decode cX7_person 16 = .ok (.aload_n 0, 1) := by decide +kernel
theorem dX7_person_17 : decode cX7_person 17 = .ok (.iload_n 2, 1) := by decide +kernel
theorem dX7_person_18 : decode cX7_person 18 = .ok (.iconst 0, 1) := by decide +kernel
theorem dX7_person_19 : decode cX7_person 19 = .ok (.bipush 9, 2) := by decide +kernel
theorem dX7_person_21 : decode cX7_person 21 = .ok (.invokevirtual 120, 3) := by decide +kernel
theorem dX7_person_24 : decode cX7_person 24 = .ok (.ifCond .eq 14, 3) := by decide +kernel
theorem dX7_person_27 : decode cX7_person 27 = .ok (.aload_n 0, 1) := by decide +kernel
theorem dX7_person_28 : decode cX7_person 28 = .ok (.iload_n 3, 1) := by decide +kernel
theorem dX7_person_29 : decode cX7_person 29 = .ok (.iconst 0, 1) := by decide +kernel
theorem dX7_person_30 : decode cX7_person 30 = .ok (.bipush 20, 2) := by decide +kernel
theorem dX7_person_32 : decode cX7_person 32 = .ok (.invokevirtual 120, 3) := by decide +kernel
theorem dX7_person_35 : decode cX7_person 35 = .ok (.ifCond .ne 10, 3) := by decide +kernel
theorem dX7_person_38 : decode cX7_person 38 = .ok (.aload_n 0, 1) := by decide +kernel
theorem dX7_person_39 : decode cX7_person 39 = .ok (.bipush (-6), 2) := by decide +kernel
theorem dX7_person_41 : decode cX7_person 41 = .ok (.invokevirtual 109, 3) := by decide +kernel
theorem dX7_person_44 : decode cX7_person 44 = .ok (.ireturn, 1) := by decide +kernel
theorem dX7_person_45 : decode cX7_person 45 = .ok (.aload_n 0, 1) := by decide +kernel
theorem dX7_person_46 : decode cX7_person 46 = .ok (.getfield 102, 3) := by decide +kernel
theorem dX7_person_49 : decode cX7_person 49 = .ok (.bipush 10, 2) := by decide +kernel
theorem dX7_person_51 : decode cX7_person 51 = .ok (.if_icmp .ne 12, 3) := by decide +kernel
theorem dX7_person_54 : decode cX7_person 54 = .ok (.aload_n 0, 1) := by decide +kernel
theorem dX7_person_55 : decode cX7_person 55 = .ok (.bipush (-7), 2) := by decide +kernel
theorem dX7_person_57 : decode cX7_person 57 = .ok (.invokevirtual 109, 3) := by decide +kernel
theorem dX7_person_60 : decode cX7_person 60 = .ok (.goto 20, 3) := by decide +kernel
theorem dX7_person_63 : decode cX7_person 63 = .ok (.aload_n 0, 1) := by decide +kernel
theorem dX7_person_64 : decode cX7_person 64 = .ok (.iload_n 1, 1) := by decide +kernel
theorem dX7_person_65 : decode cX7_person 65 = .ok (.iload_n 2, 1) := by decide +kernel
theorem dX7_person_66 : decode cX7_person 66 = .ok (.iload_n 3, 1) := by decide +kernel
theorem dX7_person_67 : decode cX7_person 67 = .ok (.iload 4, 2) := by decide +kernel
theorem dX7_person_69 : decode cX7_person 69 = .ok (.ifCond .eq 7, 3) := by decide +kernel
theorem dX7_person_72 : decode cX7_person 72 = .ok (.iconst 1, 1) := by decide +kernel
theorem dX7_person_73 : decode cX7_person 73 = .ok (.goto 4, 3) := by decide +kernel
theorem dX7_person_76 : decode cX7_person 76 = .ok (.iconst 0, 1) := by decide +kernel
theorem dX7_person_77 : decode cX7_person 77 = .ok (.invokevirtual 124, 3) := by decide +kernel
theorem dX7_person_80 : decode cX7_person 80 = .ok (.ireturn, 1) := by decide +kernel
theorem dX7_friend_0 : decode cX7_friend 0 = .ok (.aload_n 0, 1) := by decide +kernel
theorem dX7_friend_1 : decode cX7_friend 1 = .ok (.iload_n 1, 1) := by decide +kernel
theorem dX7_friend_2 : decode cX7_friend 2 = .ok (.invokevirtual 113, 3) := by decide +kernel
theorem dX7_friend_5 : decode cX7_friend 5 = .ok (.ifCond .eq 16, 3) := by decide +kernel
theorem dX7_friend_8 : decode cX7_friend 8 = .ok (.iload_n 2, 1) := by decide +kernel
theorem dX7_friend_9 : decode cX7_friend 9 = .ok (.iconst (-1), 1) := by decide +kernel
theorem dX7_friend_10 : decode cX7_friend 10 = .ok (.if_icmp .eq 17, 3) := by decide +kernel
theorem dX7_friend_13 : decode cX7_friend 13 = .ok (.aload_n 0, 1) := by decide +kernel
theorem dX7_friend_14 : decode cX7_friend 14 = .ok (.iload_n 2, 1) := by decide +kernel
theorem dX7_friend_15 : decode cX7_friend 15 = .ok (.invokevirtual 113, 3) := by decide +kernel
theorem dX7_friend_18 : decode cX7_friend 18 = .ok (.ifCond .ne 9, 3) := by decide +kernel
theorem dX7_friend_21 : decode cX7_friend 21 = .ok (.aload_n 0, 1) := by decide +kernel
theorem dX7_friend_22 : decode cX7_friend 22 = .ok (.iconst (-1), 1) := by decide +kernel
theorem dX7_friend_23 : decode cX7_friend 23 = .ok (.invokevirtual 128, 3) := by decide +kernel
theorem dX7_friend_26 : decode cX7_friend 26 = .ok (.ireturn, 1) := by decide +kernel
theorem dX7_friend_27 : decode cX7_friend 27 = .ok (.iload_n 1, 1) := by decide +kernel
theorem dX7_friend_28 : decode cX7_friend 28 = .ok (.iload_n 2, 1) := by decide +kernel
theorem dX7_friend_29 : decode cX7_friend 29 = .ok (.if_icmp .ne 10, 3) := by decide +kernel
theorem dX7_friend_32 : decode cX7_friend 32 = .ok (.aload_n 0, 1) := by decide +kernel
theorem dX7_friend_33 : decode cX7_friend 33 = .ok (.bipush (-6), 2) := by decide +kernel
theorem dX7_friend_35 : decode cX7_friend 35 = .ok (.invokevirtual 128, 3) := by decide +kernel
theorem dX7_friend_38 : decode cX7_friend 38 = .ok (.ireturn, 1) := by decide +kernel
theorem dX7_friend_39 : decode cX7_friend 39 = .ok (.aload_n 0, 1) := by decide +kernel
theorem dX7_friend_40 : decode cX7_friend 40 = .ok (.getfield 41, 3) := by decide +kernel
theorem dX7_friend_43 : decode cX7_friend 43 = .ok (.iload_n 1, 1) := by decide +kernel
theorem dX7_friend_44 : decode cX7_friend 44 = .ok (.iaload, 1) := by decide +kernel
theorem dX7_friend_45 : decode cX7_friend 45 = .ok (.istore_n 3, 1) := by decide +kernel
theorem dX7_friend_46 : decode cX7_friend 46 = .ok (.aload_n 0, 1) := by decide +kernel
theorem dX7_friend_47 : decode cX7_friend 47 = .ok (.getfield 41, 3) := by decide +kernel
theorem dX7_friend_50 : decode cX7_friend 50 = .ok (.iload_n 1, 1) := by decide +kernel
theorem dX7_friend_51 : decode cX7_friend 51 = .ok (.iload_n 2, 1) := by decide +kernel
theorem dX7_friend_52 : decode cX7_friend 52 = .ok (.iastore, 1) := by decide +kernel
theorem dX7_friend_53 : decode cX7_friend 53 = .ok (.iload_n 3, 1) := by decide +kernel
theorem dX7_friend_54 : decode cX7_friend 54 = .ok (.ireturn, 1) := by decide +kernel
theorem dX7_isAsked_0 : decode cX7_isAsked 0 = .ok (.iload_n 1, 1) := by decide +kernel
theorem dX7_isAsked_1 : decode cX7_isAsked 1 = .ok (.ifCond .ne 14, 3) := by decide +kernel
theorem dX7_isAsked_4 : decode cX7_isAsked 4 = .ok (.aload_n 0, 1) := by decide +kernel
theorem dX7_isAsked_5 : decode cX7_isAsked 5 = .ok (.iload_n 2, 1) := by decide +kernel
theorem dX7_isAsked_6 : decode cX7_isAsked 6 = .ok (.iconst 0, 1) := by decide +kernel
theorem dX7_isAsked_7 : decode cX7_isAsked 7 = .ok (.bipush 20, 2) := by decide +kernel
theorem dX7_isAsked_9 : decode cX7_isAsked 9 = .ok (.invokevirtual 120, 3) := by decide +kernel
theorem dX7_isAsked_12 : decode cX7_isAsked 12 = .ok (.goto 43, 3) := by decide +kernel
theorem dX7_isAsked_15 : decode cX7_isAsked 15 = .ok (.iload_n 1, 1) := by decide +kernel
theorem dX7_isAsked_16 : decode cX7_isAsked 16 = .ok (.iconst 1, 1) := by decide +kernel
theorem dX7_isAsked_17 : decode cX7_isAsked 17 = .ok (.if_icmp .ne 14, 3) := by decide +kernel
theorem dX7_isAsked_20 : decode cX7_isAsked 20 = .ok (.aload_n 0, 1) := by decide +kernel
theorem dX7_isAsked_21 : decode cX7_isAsked 21 = .ok (.iload_n 2, 1) := by decide +kernel
theorem dX7_isAsked_22 : decode cX7_isAsked 22 = .ok (.iconst 0, 1) := by decide +kernel
theorem dX7_isAsked_23 : decode cX7_isAsked 23 = .ok (.bipush 9, 2) := by decide +kernel
theorem dX7_isAsked_25 : decode cX7_isAsked 25 = .ok (.invokevirtual 120, 3) := by decide +kernel
theorem dX7_isAsked_28 : decode cX7_isAsked 28 = .ok (.goto 27, 3) := by decide +kernel
theorem dX7_isAsked_31 : decode cX7_isAsked 31 = .ok (.iload_n 1, 1) := by decide +kernel
theorem dX7_isAsked_32 : decode cX7_isAsked 32 = .ok (.iconst 2, 1) := by decide +kernel
theorem dX7_isAsked_33 : decode cX7_isAsked 33 = .ok (.if_icmp .ne 14, 3) := by decide +kernel
theorem dX7_isAsked_36 : decode cX7_isAsked 36 = .ok (.aload_n 0, 1) := by decide +kernel
theorem dX7_isAsked_37 : decode cX7_isAsked 37 = .ok (.iload_n 2, 1) := by decide +kernel
theorem dX7_isAsked_38 : decode cX7_isAsked 38 = .ok (.iconst 1, 1) := by decide +kernel
theorem dX7_isAsked_39 : decode cX7_isAsked 39 = .ok (.bipush 12, 2) := by decide +kernel
theorem dX7_isAsked_41 : decode cX7_isAsked 41 = .ok (.invokevirtual 120, 3) := by decide +kernel
theorem dX7_isAsked_44 : decode cX7_isAsked 44 = .ok (.goto 11, 3) := by decide +kernel
theorem dX7_isAsked_47 : decode cX7_isAsked 47 = .ok (.aload_n 0, 1) := by decide +kernel
theorem dX7_isAsked_48 : decode cX7_isAsked 48 = .ok (.iload_n 2, 1) := by decide +kernel
theorem dX7_isAsked_49 : decode cX7_isAsked 49 = .ok (.iconst 0, 1) := by decide +kernel
theorem dX7_isAsked_50 : decode cX7_isAsked 50 = .ok (.bipush 10, 2) := by decide +kernel
theorem dX7_isAsked_52 : decode cX7_isAsked 52 = .ok (.invokevirtual 120, 3) := by decide +kernel
theorem dX7_isAsked_55 : decode cX7_isAsked 55 = .ok (.ireturn, 1) := by decide +kernel
theorem dX7_asks_0 : decode cX7_asks 0 = .ok (.iload_n 1, 1) := by decide +kernel
theorem dX7_asks_1 : decode cX7_asks 1 = .ok (.ifCond .ne 11, 3) := by decide +kernel
theorem dX7_asks_4 : decode cX7_asks 4 = .ok (.aload_n 0, 1) := by decide +kernel
theorem dX7_asks_5 : decode cX7_asks 5 = .ok (.iload_n 2, 1) := by decide +kernel
theorem dX7_asks_6 : decode cX7_asks 6 = .ok (.putfield 7, 3) := by decide +kernel
theorem dX7_asks_9 : decode cX7_asks 9 = .ok (.goto 34, 3) := by decide +kernel
theorem dX7_asks_12 : decode cX7_asks 12 = .ok (.iload_n 1, 1) := by decide +kernel
theorem dX7_asks_13 : decode cX7_asks 13 = .ok (.iconst 1, 1) := by decide +kernel
theorem dX7_asks_14 : decode cX7_asks 14 = .ok (.if_icmp .ne 11, 3) := by decide +kernel
theorem dX7_asks_17 : decode cX7_asks 17 = .ok (.aload_n 0, 1) := by decide +kernel
theorem dX7_asks_18 : decode cX7_asks 18 = .ok (.iload_n 2, 1) := by decide +kernel
theorem dX7_asks_19 : decode cX7_asks 19 = .ok (.putfield 131, 3) := by decide +kernel
theorem dX7_asks_22 : decode cX7_asks 22 = .ok (.goto 21, 3) := by decide +kernel
theorem dX7_asks_25 : decode cX7_asks 25 = .ok (.iload_n 1, 1) := by decide +kernel
theorem dX7_asks_26 : decode cX7_asks 26 = .ok (.iconst 2, 1) := by decide +kernel
theorem dX7_asks_27 : decode cX7_asks 27 = .ok (.if_icmp .ne 11, 3) := by decide +kernel
theorem dX7_asks_30 : decode cX7_asks 30 = .ok (.aload_n 0, 1) := by decide +kernel
theorem dX7_asks_31 : decode cX7_asks 31 = .ok (.iload_n 2, 1) := by decide +kernel
theorem dX7_asks_32 : decode cX7_asks 32 = .ok (.putfield 13, 3) := by decide +kernel
theorem dX7_asks_35 : decode cX7_asks 35 = .ok (.goto 8, 3) := by decide +kernel
theorem dX7_asks_38 : decode cX7_asks 38 = .ok (.aload_n 0, 1) := by decide +kernel
theorem dX7_asks_39 : decode cX7_asks 39 = .ok (.iload_n 2, 1) := by decide +kernel
theorem dX7_asks_40 : decode cX7_asks 40 = .ok (.putfield 16, 3) := by decide +kernel
theorem dX7_asks_43 : decode cX7_asks 43 = .ok (.return_, 1) := by decide +kernel
theorem dX7_ask_0 : decode cX7_ask 0 = .ok (.iload_n 1, 1) := by decide +kernel
theorem dX7_ask_1 : decode cX7_ask 1 = .ok (.ifCond .lt 17, 3) := by decide +kernel
theorem dX7_ask_4 : decode cX7_ask 4 = .ok (.iload_n 1, 1) := by decide +kernel
theorem dX7_ask_5 : decode cX7_ask 5 = .ok (.iconst 3, 1) := by decide +kernel
theorem dX7_ask_6 : decode cX7_ask 6 = .ok (.if_icmp .gt 12, 3) := by decide +kernel
theorem dX7_ask_9 : decode cX7_ask 9 = .ok (.aload_n 0, 1) := by decide +kernel
theorem dX7_ask_10 : decode cX7_ask 10 = .ok (.iload_n 1, 1) := by decide +kernel
theorem dX7_ask_11 : decode cX7_ask 11 = .ok (.iload_n 2, 1) := by decide +kernel
theorem dX7_ask_12 : decode cX7_ask 12 = .ok (.invokevirtual 134, 3) := by decide +kernel
theorem dX7_ask_15 : decode cX7_ask 15 = .ok (.ifCond .ne 10, 3) := by decide +kernel
theorem dX7_ask_18 : decode cX7_ask 18 = .ok (.aload_n 0, 1) := by decide +kernel
theorem dX7_ask_19 : decode cX7_ask 19 = .ok (.bipush (-6), 2) := by decide +kernel
theorem dX7_ask_21 : decode cX7_ask 21 = .ok (.invokevirtual 109, 3) := by decide +kernel
theorem dX7_ask_24 : decode cX7_ask 24 = .ok (.ireturn, 1) := by decide +kernel
theorem dX7_ask_25 : decode cX7_ask 25 = .ok (.iload_n 1, 1) := by decide +kernel
theorem dX7_ask_26 : decode cX7_ask 26 = .ok (.ifCond .ne 10, 3) := by decide +kernel
theorem dX7_ask_29 : decode cX7_ask 29 = .ok (.aload_n 0, 1) := by decide +kernel
theorem dX7_ask_30 : decode cX7_ask 30 = .ok (.getfield 7, 3) := by decide +kernel
theorem dX7_ask_33 : decode cX7_ask 33 = .ok (.goto 31, 3) := by decide +kernel
theorem dX7_ask_36 : decode cX7_ask 36 = .ok (.iload_n 1, 1) := by decide +kernel
theorem dX7_ask_37 : decode cX7_ask 37 = .ok (.iconst 1, 1) := by decide +kernel
theorem dX7_ask_38 : decode cX7_ask 38 = .ok (.if_icmp .ne 10, 3) := by decide +kernel
theorem dX7_ask_41 : decode cX7_ask 41 = .ok (.aload_n 0, 1) := by decide +kernel
theorem dX7_ask_42 : decode cX7_ask 42 = .ok (.getfield 131, 3) := by decide +kernel
theorem dX7_ask_45 : decode cX7_ask 45 = .ok (.goto 19, 3) := by decide +kernel
theorem dX7_ask_48 : decode cX7_ask 48 = .ok (.iload_n 1, 1) := by decide +kernel
theorem dX7_ask_49 : decode cX7_ask 49 = .ok (.iconst 2, 1) := by decide +kernel
theorem dX7_ask_50 : decode cX7_ask 50 = .ok (.if_icmp .ne 10, 3) := by decide +kernel
theorem dX7_ask_53 : decode cX7_ask 53 = .ok (.aload_n 0, 1) := by decide +kernel
theorem dX7_ask_54 : decode cX7_ask 54 = .ok (.getfield 13, 3) := by decide +kernel
theorem dX7_ask_57 : decode cX7_ask 57 = .ok (.goto 7, 3) := by decide +kernel
theorem dX7_ask_60 : decode cX7_ask 60 = .ok (.aload_n 0, 1) := by decide +kernel
theorem dX7_ask_61 : decode cX7_ask 61 = .ok (.getfield 16, 3) := by decide +kernel
theorem dX7_ask_64 : decode cX7_ask 64 = .ok (.istore_n 3, 1) := by decide +kernel
theorem dX7_ask_65 : decode cX7_ask 65 = .ok (.aload_n 0, 1) := by decide +kernel
theorem dX7_ask_66 : decode cX7_ask 66 = .ok (.iload_n 1, 1) := by decide +kernel
theorem dX7_ask_67 : decode cX7_ask 67 = .ok (.iload_n 2, 1) := by decide +kernel
theorem dX7_ask_68 : decode cX7_ask 68 = .ok (.invokevirtual 137, 3) := by decide +kernel
theorem dX7_ask_71 : decode cX7_ask 71 = .ok (.iload_n 3, 1) := by decide +kernel
theorem dX7_ask_72 : decode cX7_ask 72 = .ok (.ireturn, 1) := by decide +kernel
theorem dX7_go_0 : decode cX7_go 0 = .ok (.aload_n 0, 1) := by decide +kernel
theorem dX7_go_1 : decode cX7_go 1 = .ok (.iload_n 1, 1) := by decide +kernel
theorem dX7_go_2 : decode cX7_go 2 = .ok (.invokevirtual 113, 3) := by decide +kernel
theorem dX7_go_5 : decode cX7_go 5 = .ok (.ifCond .ne 9, 3) := by decide +kernel
theorem dX7_go_8 : decode cX7_go 8 = .ok (.aload_n 0, 1) := by decide +kernel
theorem dX7_go_9 : decode cX7_go 9 = .ok (.iconst (-1), 1) := by decide +kernel
theorem dX7_go_10 : decode cX7_go 10 = .ok (.invokevirtual 109, 3) := by decide +kernel
theorem dX7_go_13 : decode cX7_go 13 = .ok (.ireturn, 1) := by decide +kernel
theorem dX7_go_14 : decode cX7_go 14 = .ok (.aload_n 0, 1) := by decide +kernel
theorem dX7_go_15 : decode cX7_go 15 = .ok (.getfield 53, 3) := by decide +kernel
theorem dX7_go_18 : decode cX7_go 18 = .ok (.iload_n 1, 1) := by decide +kernel
theorem dX7_go_19 : decode cX7_go 19 = .ok (.iaload, 1) := by decide +kernel
theorem dX7_go_20 : decode cX7_go 20 = .ok (.istore_n 3, 1) := by decide +kernel
theorem dX7_go_21 : decode cX7_go 21 = .ok (.aload_n 0, 1) := by decide +kernel
theorem dX7_go_22 : decode cX7_go 22 = .ok (.getfield 53, 3) := by decide +kernel
theorem dX7_go_25 : decode cX7_go 25 = .ok (.iload_n 1, 1) := by decide +kernel
theorem dX7_go_26 : decode cX7_go 26 = .ok (.iload_n 2, 1) := by decide +kernel
theorem dX7_go_27 : decode cX7_go 27 = .ok (.ifCond .eq 7, 3) := by decide +kernel
theorem dX7_go_30 : decode cX7_go 30 = .ok (.iconst 1, 1) := by decide +kernel
theorem dX7_go_31 : decode cX7_go 31 = .ok (.goto 4, 3) := by decide +kernel
theorem dX7_go_34 : decode cX7_go 34 = .ok (.iconst 0, 1) := by decide +kernel
theorem dX7_go_35 : decode cX7_go 35 = .ok (.iastore, 1) := by decide +kernel
theorem dX7_go_36 : decode cX7_go 36 = .ok (.iload_n 2, 1) := by decide +kernel
theorem dX7_go_37 : decode cX7_go 37 = .ok (.ifCond .ne 10, 3) := by decide +kernel
theorem dX7_go_40 : decode cX7_go 40 = .ok (.aload_n 0, 1) := by decide +kernel
theorem dX7_go_41 : decode cX7_go 41 = .ok (.getfield 47, 3) := by decide +kernel
theorem dX7_go_44 : decode cX7_go 44 = .ok (.iload_n 1, 1) := by decide +kernel
theorem dX7_go_45 : decode cX7_go 45 = .ok (.iconst 0, 1) := by decide +kernel
theorem dX7_go_46 : decode cX7_go 46 = .ok (.iastore, 1) := by decide +kernel
theorem dX7_go_47 : decode cX7_go 47 = .ok (.iload_n 3, 1) := by decide +kernel
theorem dX7_go_48 : decode cX7_go 48 = .ok (.ireturn, 1) := by decide +kernel
theorem dX7_personOf_0 : decode cX7_personOf 0 = .ok (.aload_n 0, 1) := by decide +kernel
theorem dX7_personOf_1 : decode cX7_personOf 1 = .ok (.iload_n 1, 1) := by decide +kernel
theorem dX7_personOf_2 : decode cX7_personOf 2 = .ok (.invokevirtual 113, 3) := by decide +kernel
theorem dX7_personOf_5 : decode cX7_personOf 5 = .ok (.ifCond .ne 10, 3) := by decide +kernel
theorem dX7_personOf_8 : decode cX7_personOf 8 = .ok (.aload_n 0, 1) := by decide +kernel
theorem dX7_personOf_9 : decode cX7_personOf 9 = .ok (.bipush (-5), 2) := by decide +kernel
theorem dX7_personOf_11 : decode cX7_personOf 11 = .ok (.invokevirtual 109, 3) := by decide +kernel
theorem dX7_personOf_14 : decode cX7_personOf 14 = .ok (.ireturn, 1) := by decide +kernel
theorem dX7_personOf_15 : decode cX7_personOf 15 = .ok (.iload_n 2, 1) := by decide +kernel
theorem dX7_personOf_16 : decode cX7_personOf 16 = .ok (.tableswitch 104 0 7 #[48, 55, 62, 69, 76, 83, 90, 97], 48) := by decide +kernel
theorem dX7_personOf_64 : decode cX7_personOf 64 = .ok (.aload_n 0, 1) := by decide +kernel
theorem dX7_personOf_65 : decode cX7_personOf 65 = .ok (.getfield 29, 3) := by decide +kernel
theorem dX7_personOf_68 : decode cX7_personOf 68 = .ok (.iload_n 1, 1) := by decide +kernel
theorem dX7_personOf_69 : decode cX7_personOf 69 = .ok (.iaload, 1) := by decide +kernel
theorem dX7_personOf_70 : decode cX7_personOf 70 = .ok (.ireturn, 1) := by decide +kernel
theorem dX7_personOf_71 : decode cX7_personOf 71 = .ok (.aload_n 0, 1) := by decide +kernel
theorem dX7_personOf_72 : decode cX7_personOf 72 = .ok (.getfield 32, 3) := by decide +kernel
theorem dX7_personOf_75 : decode cX7_personOf 75 = .ok (.iload_n 1, 1) := by decide +kernel
theorem dX7_personOf_76 : decode cX7_personOf 76 = .ok (.iaload, 1) := by decide +kernel
theorem dX7_personOf_77 : decode cX7_personOf 77 = .ok (.ireturn, 1) := by decide +kernel
theorem dX7_personOf_78 : decode cX7_personOf 78 = .ok (.aload_n 0, 1) := by decide +kernel
theorem dX7_personOf_79 : decode cX7_personOf 79 = .ok (.getfield 35, 3) := by decide +kernel
theorem dX7_personOf_82 : decode cX7_personOf 82 = .ok (.iload_n 1, 1) := by decide +kernel
theorem dX7_personOf_83 : decode cX7_personOf 83 = .ok (.iaload, 1) := by decide +kernel
theorem dX7_personOf_84 : decode cX7_personOf 84 = .ok (.ireturn, 1) := by decide +kernel
theorem dX7_personOf_85 : decode cX7_personOf 85 = .ok (.aload_n 0, 1) := by decide +kernel
theorem dX7_personOf_86 : decode cX7_personOf 86 = .ok (.getfield 38, 3) := by decide +kernel
theorem dX7_personOf_89 : decode cX7_personOf 89 = .ok (.iload_n 1, 1) := by decide +kernel
theorem dX7_personOf_90 : decode cX7_personOf 90 = .ok (.iaload, 1) := by decide +kernel
theorem dX7_personOf_91 : decode cX7_personOf 91 = .ok (.ireturn, 1) := by decide +kernel
theorem dX7_personOf_92 : decode cX7_personOf 92 = .ok (.aload_n 0, 1) := by decide +kernel
theorem dX7_personOf_93 : decode cX7_personOf 93 = .ok (.getfield 44, 3) := by decide +kernel
theorem dX7_personOf_96 : decode cX7_personOf 96 = .ok (.iload_n 1, 1) := by decide +kernel
theorem dX7_personOf_97 : decode cX7_personOf 97 = .ok (.iaload, 1) := by decide +kernel
theorem dX7_personOf_98 : decode cX7_personOf 98 = .ok (.ireturn, 1) := by decide +kernel
theorem dX7_personOf_99 : decode cX7_personOf 99 = .ok (.aload_n 0, 1) := by decide +kernel
theorem dX7_personOf_100 : decode cX7_personOf 100 = .ok (.getfield 47, 3) := by decide +kernel
theorem dX7_personOf_103 : decode cX7_personOf 103 = .ok (.iload_n 1, 1) := by decide +kernel
theorem dX7_personOf_104 : decode cX7_personOf 104 = .ok (.iaload, 1) := by decide +kernel
theorem dX7_personOf_105 : decode cX7_personOf 105 = .ok (.ireturn, 1) := by decide +kernel
theorem dX7_personOf_106 : decode cX7_personOf 106 = .ok (.aload_n 0, 1) := by decide +kernel
theorem dX7_personOf_107 : decode cX7_personOf 107 = .ok (.getfield 50, 3) := by decide +kernel
theorem dX7_personOf_110 : decode cX7_personOf 110 = .ok (.iload_n 1, 1) := by decide +kernel
theorem dX7_personOf_111 : decode cX7_personOf 111 = .ok (.iaload, 1) := by decide +kernel
theorem dX7_personOf_112 : decode cX7_personOf 112 = .ok (.ireturn, 1) := by decide +kernel
theorem dX7_personOf_113 : decode cX7_personOf 113 = .ok (.aload_n 0, 1) := by decide +kernel
theorem dX7_personOf_114 : decode cX7_personOf 114 = .ok (.getfield 53, 3) := by decide +kernel
theorem dX7_personOf_117 : decode cX7_personOf 117 = .ok (.iload_n 1, 1) := by decide +kernel
theorem dX7_personOf_118 : decode cX7_personOf 118 = .ok (.iaload, 1) := by decide +kernel
theorem dX7_personOf_119 : decode cX7_personOf 119 = .ok (.ireturn, 1) := by decide +kernel
theorem dX7_personOf_120 : decode cX7_personOf 120 = .ok (.aload_n 0, 1) := by decide +kernel
theorem dX7_personOf_121 : decode cX7_personOf 121 = .ok (.bipush (-5), 2) := by decide +kernel
theorem dX7_personOf_123 : decode cX7_personOf 123 = .ok (.invokevirtual 109, 3) := by decide +kernel
theorem dX7_personOf_126 : decode cX7_personOf 126 = .ok (.ireturn, 1) := by decide +kernel
theorem dX7_wrong_0 : decode cX7_wrong 0 = .ok (.aload_n 0, 1) := by decide +kernel
theorem dX7_wrong_1 : decode cX7_wrong 1 = .ok (.iload_n 1, 1) := by decide +kernel
theorem dX7_wrong_2 : decode cX7_wrong 2 = .ok (.putfield 141, 3) := by decide +kernel
theorem dX7_wrong_5 : decode cX7_wrong 5 = .ok (.iconst 0, 1) := by decide +kernel
theorem dX7_wrong_6 : decode cX7_wrong 6 = .ok (.ireturn, 1) := by decide +kernel
theorem dX7_sign_0 : decode cX7_sign 0 = .ok (.aload_n 0, 1) := by decide +kernel
theorem dX7_sign_1 : decode cX7_sign 1 = .ok (.getfield 68, 3) := by decide +kernel
theorem dX7_sign_4 : decode cX7_sign 4 = .ok (.aload_n 0, 1) := by decide +kernel
theorem dX7_sign_5 : decode cX7_sign 5 = .ok (.getfield 144, 3) := by decide +kernel
theorem dX7_sign_8 : decode cX7_sign 8 = .ok (.iload_n 1, 1) := by decide +kernel
theorem dX7_sign_9 : decode cX7_sign 9 = .ok (.iadd, 1) := by decide +kernel
theorem dX7_sign_10 : decode cX7_sign 10 = .ok (.laload, 1) := by decide +kernel
theorem dX7_sign_11 : decode cX7_sign 11 = .ok (.l2i, 1) := by decide +kernel
theorem dX7_sign_12 : decode cX7_sign 12 = .ok (.ireturn, 1) := by decide +kernel
theorem dX7_isPerson_0 : decode cX7_isPerson 0 = .ok (.iconst 0, 1) := by decide +kernel
theorem dX7_isPerson_1 : decode cX7_isPerson 1 = .ok (.istore_n 1, 1) := by decide +kernel
theorem dX7_isPerson_2 : decode cX7_isPerson 2 = .ok (.iload_n 1, 1) := by decide +kernel
theorem dX7_isPerson_3 : decode cX7_isPerson 3 = .ok (.bipush 6, 2) := by decide +kernel
theorem dX7_isPerson_5 : decode cX7_isPerson 5 = .ok (.if_icmp .ge 41, 3) := by decide +kernel
theorem dX7_isPerson_8 : decode cX7_isPerson 8 = .ok (.aload_n 0, 1) := by decide +kernel
theorem dX7_isPerson_9 : decode cX7_isPerson 9 = .ok (.getfield 147, 3) := by decide +kernel
theorem dX7_isPerson_12 : decode cX7_isPerson 12 = .ok (.iload_n 1, 1) := by decide +kernel
theorem dX7_isPerson_13 : decode cX7_isPerson 13 = .ok (.iadd, 1) := by decide +kernel
theorem dX7_isPerson_14 : decode cX7_isPerson 14 = .ok (.aload_n 0, 1) := by decide +kernel
theorem dX7_isPerson_15 : decode cX7_isPerson 15 = .ok (.getfield 150, 3) := by decide +kernel
theorem dX7_isPerson_18 : decode cX7_isPerson 18 = .ok (.if_icmp .ge 28, 3) := by decide +kernel
theorem dX7_isPerson_21 : decode cX7_isPerson 21 = .ok (.aload_n 0, 1) := by decide +kernel
theorem dX7_isPerson_22 : decode cX7_isPerson 22 = .ok (.aload_n 0, 1) := by decide +kernel
theorem dX7_isPerson_23 : decode cX7_isPerson 23 = .ok (.getfield 147, 3) := by decide +kernel
theorem dX7_isPerson_26 : decode cX7_isPerson 26 = .ok (.iload_n 1, 1) := by decide +kernel
theorem dX7_isPerson_27 : decode cX7_isPerson 27 = .ok (.iadd, 1) := by decide +kernel
theorem dX7_isPerson_28 : decode cX7_isPerson 28 = .ok (.invokevirtual 153, 3) := by decide +kernel
theorem dX7_isPerson_31 : decode cX7_isPerson 31 = .ok (.aload_n 0, 1) := by decide +kernel
theorem dX7_isPerson_32 : decode cX7_isPerson 32 = .ok (.getfield 75, 3) := by decide +kernel
theorem dX7_isPerson_35 : decode cX7_isPerson 35 = .ok (.iload_n 1, 1) := by decide +kernel
theorem dX7_isPerson_36 : decode cX7_isPerson 36 = .ok (.iaload, 1) := by decide +kernel
theorem dX7_isPerson_37 : decode cX7_isPerson 37 = .ok (.if_icmp .ne 9, 3) := by decide +kernel
theorem dX7_isPerson_40 : decode cX7_isPerson 40 = .ok (.iinc 1 1, 3) := by decide +kernel
theorem dX7_isPerson_43 : decode cX7_isPerson 43 = .ok (.goto (-41), 3) := by decide +kernel
theorem dX7_isPerson_46 : decode cX7_isPerson 46 = .ok (.iload_n 1, 1) := by decide +kernel
theorem dX7_isPerson_47 : decode cX7_isPerson 47 = .ok (.bipush 6, 2) := by decide +kernel
theorem dX7_isPerson_49 : decode cX7_isPerson 49 = .ok (.if_icmp .ne 7, 3) := by decide +kernel
theorem dX7_isPerson_52 : decode cX7_isPerson 52 = .ok (.iconst 1, 1) := by decide +kernel
theorem dX7_isPerson_53 : decode cX7_isPerson 53 = .ok (.goto 4, 3) := by decide +kernel
theorem dX7_isPerson_56 : decode cX7_isPerson 56 = .ok (.iconst 0, 1) := by decide +kernel
theorem dX7_isPerson_57 : decode cX7_isPerson 57 = .ok (.ireturn, 1) := by decide +kernel
theorem dX7_word_0 : decode cX7_word 0 = .ok (.iconst 0, 1) := by decide +kernel
theorem dX7_word_1 : decode cX7_word 1 = .ok (.istore_n 1, 1) := by decide +kernel
theorem dX7_word_2 : decode cX7_word 2 = .ok (.aload_n 0, 1) := by decide +kernel
theorem dX7_word_3 : decode cX7_word 3 = .ok (.getfield 147, 3) := by decide +kernel
theorem dX7_word_6 : decode cX7_word 6 = .ok (.istore_n 2, 1) := by decide +kernel
theorem dX7_word_7 : decode cX7_word 7 = .ok (.iconst 0, 1) := by decide +kernel
theorem dX7_word_8 : decode cX7_word 8 = .ok (.istore_n 3, 1) := by decide +kernel
theorem dX7_word_9 : decode cX7_word 9 = .ok (.iload_n 3, 1) := by decide +kernel
theorem dX7_word_10 : decode cX7_word 10 = .ok (.bipush 7, 2) := by decide +kernel
theorem dX7_word_12 : decode cX7_word 12 = .ok (.if_icmp .ge 111, 3) := by decide +kernel
theorem dX7_word_15 : decode cX7_word 15 = .ok (.aload_n 0, 1) := by decide +kernel
theorem dX7_word_16 : decode cX7_word 16 = .ok (.getfield 147, 3) := by decide +kernel
theorem dX7_word_19 : decode cX7_word 19 = .ok (.istore 4, 2) := by decide +kernel
theorem dX7_word_21 : decode cX7_word 21 = .ok (.iload_n 1, 1) := by decide +kernel
theorem dX7_word_22 : decode cX7_word 22 = .ok (.istore 5, 2) := by decide +kernel
theorem dX7_word_24 : decode cX7_word 24 = .ok (.aload_n 0, 1) := by decide +kernel
theorem dX7_word_25 : decode cX7_word 25 = .ok (.getfield 75, 3) := by decide +kernel
theorem dX7_word_28 : decode cX7_word 28 = .ok (.iload 5, 2) := by decide +kernel
theorem dX7_word_30 : decode cX7_word 30 = .ok (.iaload, 1) := by decide +kernel
theorem dX7_word_31 : decode cX7_word 31 = .ok (.ifCond .eq 37, 3) := by decide +kernel
theorem dX7_word_34 : decode cX7_word 34 = .ok (.iload 4, 2) := by decide +kernel
theorem dX7_word_36 : decode cX7_word 36 = .ok (.aload_n 0, 1) := by decide +kernel
theorem dX7_word_37 : decode cX7_word 37 = .ok (.getfield 150, 3) := by decide +kernel
theorem dX7_word_40 : decode cX7_word 40 = .ok (.if_icmp .ge 28, 3) := by decide +kernel
theorem dX7_word_43 : decode cX7_word 43 = .ok (.aload_n 0, 1) := by decide +kernel
theorem dX7_word_44 : decode cX7_word 44 = .ok (.iload 4, 2) := by decide +kernel
theorem dX7_word_46 : decode cX7_word 46 = .ok (.invokevirtual 153, 3) := by decide +kernel
theorem dX7_word_49 : decode cX7_word 49 = .ok (.aload_n 0, 1) := by decide +kernel
theorem dX7_word_50 : decode cX7_word 50 = .ok (.getfield 75, 3) := by decide +kernel
theorem dX7_word_53 : decode cX7_word 53 = .ok (.iload 5, 2) := by decide +kernel
theorem dX7_word_55 : decode cX7_word 55 = .ok (.iaload, 1) := by decide +kernel
theorem dX7_word_56 : decode cX7_word 56 = .ok (.if_icmp .ne 12, 3) := by decide +kernel
theorem dX7_word_59 : decode cX7_word 59 = .ok (.iinc 4 1, 3) := by decide +kernel
theorem dX7_word_62 : decode cX7_word 62 = .ok (.iinc 5 1, 3) := by decide +kernel
theorem dX7_word_65 : decode cX7_word 65 = .ok (.goto (-41), 3) := by decide +kernel
theorem dX7_word_68 : decode cX7_word 68 = .ok (.aload_n 0, 1) := by decide +kernel
theorem dX7_word_69 : decode cX7_word 69 = .ok (.getfield 75, 3) := by decide +kernel
theorem dX7_word_72 : decode cX7_word 72 = .ok (.iload 5, 2) := by decide +kernel
theorem dX7_word_74 : decode cX7_word 74 = .ok (.iaload, 1) := by decide +kernel
theorem dX7_word_75 : decode cX7_word 75 = .ok (.ifCond .ne 11, 3) := by decide +kernel
theorem dX7_word_78 : decode cX7_word 78 = .ok (.aload_n 0, 1) := by decide +kernel
theorem dX7_word_79 : decode cX7_word 79 = .ok (.iload 4, 2) := by decide +kernel
theorem dX7_word_81 : decode cX7_word 81 = .ok (.putfield 147, 3) := by decide +kernel
theorem dX7_word_84 : decode cX7_word 84 = .ok (.iload_n 3, 1) := by decide +kernel
theorem dX7_word_85 : decode cX7_word 85 = .ok (.ireturn, 1) := by decide +kernel
theorem dX7_word_86 : decode cX7_word 86 = .ok (.iload 4, 2) := by decide +kernel
theorem dX7_word_88 : decode cX7_word 88 = .ok (.iload_n 2, 1) := by decide +kernel
theorem dX7_word_89 : decode cX7_word 89 = .ok (.if_icmp .le 8, 3) := by decide +kernel
theorem dX7_word_92 : decode cX7_word 92 = .ok (.iload 4, 2) := by decide +kernel
theorem dX7_word_94 : decode cX7_word 94 = .ok (.goto 4, 3) := by decide +kernel
theorem dX7_word_97 : decode cX7_word 97 = .ok (.iload_n 2, 1) := by decide +kernel
theorem dX7_word_98 : decode cX7_word 98 = .ok (.istore_n 2, 1) := by decide +kernel
theorem dX7_word_99 : decode cX7_word 99 = .ok (.aload_n 0, 1) := by decide +kernel
theorem dX7_word_100 : decode cX7_word 100 = .ok (.getfield 75, 3) := by decide +kernel
theorem dX7_word_103 : decode cX7_word 103 = .ok (.iload_n 1, 1) := by decide +kernel
theorem dX7_word_104 : decode cX7_word 104 = .ok (.iaload, 1) := by decide +kernel
theorem dX7_word_105 : decode cX7_word 105 = .ok (.ifCond .eq 9, 3) := by decide +kernel
theorem dX7_word_108 : decode cX7_word 108 = .ok (.iinc 1 1, 3) := by decide +kernel
theorem dX7_word_111 : decode cX7_word 111 = .ok (.goto (-12), 3) := by decide +kernel
theorem dX7_word_114 : decode cX7_word 114 = .ok (.iinc 1 1, 3) := by decide +kernel
theorem dX7_word_117 : decode cX7_word 117 = .ok (.iinc 3 1, 3) := by decide +kernel
theorem dX7_word_120 : decode cX7_word 120 = .ok (.goto (-111), 3) := by decide +kernel
theorem dX7_word_123 : decode cX7_word 123 = .ok (.aload_n 0, 1) := by decide +kernel
theorem dX7_word_124 : decode cX7_word 124 = .ok (.iload_n 2, 1) := by decide +kernel
theorem dX7_word_125 : decode cX7_word 125 = .ok (.putfield 141, 3) := by decide +kernel
theorem dX7_word_128 : decode cX7_word 128 = .ok (.iconst (-1), 1) := by decide +kernel
theorem dX7_word_129 : decode cX7_word 129 = .ok (.ireturn, 1) := by decide +kernel
theorem dX7_isDigit_0 : decode cX7_isDigit 0 = .ok (.aload_n 0, 1) := by decide +kernel
theorem dX7_isDigit_1 : decode cX7_isDigit 1 = .ok (.getfield 147, 3) := by decide +kernel
theorem dX7_isDigit_4 : decode cX7_isDigit 4 = .ok (.aload_n 0, 1) := by decide +kernel
theorem dX7_isDigit_5 : decode cX7_isDigit 5 = .ok (.getfield 150, 3) := by decide +kernel
theorem dX7_isDigit_8 : decode cX7_isDigit 8 = .ok (.if_icmp .ge 33, 3) := by decide +kernel
theorem dX7_isDigit_11 : decode cX7_isDigit 11 = .ok (.aload_n 0, 1) := by decide +kernel
theorem dX7_isDigit_12 : decode cX7_isDigit 12 = .ok (.aload_n 0, 1) := by decide +kernel
theorem dX7_isDigit_13 : decode cX7_isDigit 13 = .ok (.getfield 147, 3) := by decide +kernel
theorem dX7_isDigit_16 : decode cX7_isDigit 16 = .ok (.invokevirtual 153, 3) := by decide +kernel
theorem dX7_isDigit_19 : decode cX7_isDigit 19 = .ok (.bipush 48, 2) := by decide +kernel
theorem dX7_isDigit_21 : decode cX7_isDigit 21 = .ok (.if_icmp .lt 20, 3) := by decide +kernel
theorem dX7_isDigit_24 : decode cX7_isDigit 24 = .ok (.aload_n 0, 1) := by decide +kernel
theorem dX7_isDigit_25 : decode cX7_isDigit 25 = .ok (.aload_n 0, 1) := by decide +kernel
theorem dX7_isDigit_26 : decode cX7_isDigit 26 = .ok (.getfield 147, 3) := by decide +kernel
theorem dX7_isDigit_29 : decode cX7_isDigit 29 = .ok (.invokevirtual 153, 3) := by decide +kernel
theorem dX7_isDigit_32 : decode cX7_isDigit 32 = .ok (.bipush 57, 2) := by decide +kernel
theorem dX7_isDigit_34 : decode cX7_isDigit 34 = .ok (.if_icmp .gt 7, 3) := by decide +kernel
theorem dX7_isDigit_37 : decode cX7_isDigit 37 = .ok (.iconst 1, 1) := by decide +kernel
theorem dX7_isDigit_38 : decode cX7_isDigit 38 = .ok (.goto 4, 3) := by decide +kernel
theorem dX7_isDigit_41 : decode cX7_isDigit 41 = .ok (.iconst 0, 1) := by decide +kernel
theorem dX7_isDigit_42 : decode cX7_isDigit 42 = .ok (.ireturn, 1) := by decide +kernel
theorem dX7_reads_0 : decode cX7_reads 0 = .ok (.aload_n 0, 1) := by decide +kernel
theorem dX7_reads_1 : decode cX7_reads 1 = .ok (.iconst 0, 1) := by decide +kernel
theorem dX7_reads_2 : decode cX7_reads 2 = .ok (.putfield 156, 3) := by decide +kernel
theorem dX7_reads_5 : decode cX7_reads 5 = .ok (.aload_n 0, 1) := by decide +kernel
theorem dX7_reads_6 : decode cX7_reads 6 = .ok (.invokevirtual 159, 3) := by decide +kernel
theorem dX7_reads_9 : decode cX7_reads 9 = .ok (.ifCond .ne 12, 3) := by decide +kernel
theorem dX7_reads_12 : decode cX7_reads 12 = .ok (.aload_n 0, 1) := by decide +kernel
theorem dX7_reads_13 : decode cX7_reads 13 = .ok (.aload_n 0, 1) := by decide +kernel
theorem dX7_reads_14 : decode cX7_reads 14 = .ok (.getfield 147, 3) := by decide +kernel
theorem dX7_reads_17 : decode cX7_reads 17 = .ok (.invokevirtual 163, 3) := by decide +kernel
theorem dX7_reads_20 : decode cX7_reads 20 = .ok (.ireturn, 1) := by decide +kernel
theorem dX7_reads_21 : decode cX7_reads 21 = .ok (.iconst 0, 1) := by decide +kernel
theorem dX7_reads_22 : decode cX7_reads 22 = .ok (.istore_n 1, 1) := by decide +kernel
theorem dX7_reads_23 : decode cX7_reads 23 = .ok (.iload_n 1, 1) := by decide +kernel
theorem dX7_reads_24 : decode cX7_reads 24 = .ok (.iconst 2, 1) := by decide +kernel
theorem dX7_reads_25 : decode cX7_reads 25 = .ok (.if_icmp .ge 49, 3) := by decide +kernel
theorem dX7_reads_28 : decode cX7_reads 28 = .ok (.aload_n 0, 1) := by decide +kernel
theorem dX7_reads_29 : decode cX7_reads 29 = .ok (.invokevirtual 159, 3) := by decide +kernel
theorem dX7_reads_32 : decode cX7_reads 32 = .ok (.ifCond .eq 42, 3) := by decide +kernel
theorem dX7_reads_35 : decode cX7_reads 35 = .ok (.aload_n 0, 1) := by decide +kernel
theorem dX7_reads_36 : decode cX7_reads 36 = .ok (.bipush 10, 2) := by decide +kernel
theorem dX7_reads_38 : decode cX7_reads 38 = .ok (.aload_n 0, 1) := by decide +kernel
theorem dX7_reads_39 : decode cX7_reads 39 = .ok (.getfield 156, 3) := by decide +kernel
theorem dX7_reads_42 : decode cX7_reads 42 = .ok (.imul, 1) := by decide +kernel
theorem dX7_reads_43 : decode cX7_reads 43 = .ok (.aload_n 0, 1) := by decide +kernel
theorem dX7_reads_44 : decode cX7_reads 44 = .ok (.aload_n 0, 1) := by decide +kernel
theorem dX7_reads_45 : decode cX7_reads 45 = .ok (.getfield 147, 3) := by decide +kernel
theorem dX7_reads_48 : decode cX7_reads 48 = .ok (.invokevirtual 153, 3) := by decide +kernel
theorem dX7_reads_51 : decode cX7_reads 51 = .ok (.iadd, 1) := by decide +kernel
theorem dX7_reads_52 : decode cX7_reads 52 = .ok (.bipush 48, 2) := by decide +kernel
theorem dX7_reads_54 : decode cX7_reads 54 = .ok (.isub, 1) := by decide +kernel
theorem dX7_reads_55 : decode cX7_reads 55 = .ok (.putfield 156, 3) := by decide +kernel
theorem dX7_reads_58 : decode cX7_reads 58 = .ok (.aload_n 0, 1) := by decide +kernel
theorem dX7_reads_59 : decode cX7_reads 59 = .ok (.dup, 1) := by decide +kernel
theorem dX7_reads_60 : decode cX7_reads 60 = .ok (.getfield 147, 3) := by decide +kernel
theorem dX7_reads_63 : decode cX7_reads 63 = .ok (.iconst 1, 1) := by decide +kernel
theorem dX7_reads_64 : decode cX7_reads 64 = .ok (.iadd, 1) := by decide +kernel
theorem dX7_reads_65 : decode cX7_reads 65 = .ok (.putfield 147, 3) := by decide +kernel
theorem dX7_reads_68 : decode cX7_reads 68 = .ok (.iinc 1 1, 3) := by decide +kernel
theorem dX7_reads_71 : decode cX7_reads 71 = .ok (.goto (-48), 3) := by decide +kernel
theorem dX7_reads_74 : decode cX7_reads 74 = .ok (.iconst 1, 1) := by decide +kernel
theorem dX7_reads_75 : decode cX7_reads 75 = .ok (.ireturn, 1) := by decide +kernel
theorem dX7_isSo_0 : decode cX7_isSo 0 = .ok (.iload_n 1, 1) := by decide +kernel
theorem dX7_isSo_1 : decode cX7_isSo 1 = .ok (.ifCond .ne 22, 3) := by decide +kernel
theorem dX7_isSo_4 : decode cX7_isSo 4 = .ok (.aload_n 0, 1) := by decide +kernel
theorem dX7_isSo_5 : decode cX7_isSo 5 = .ok (.getfield 156, 3) := by decide +kernel
theorem dX7_isSo_8 : decode cX7_isSo 8 = .ok (.aload_n 0, 1) := by decide +kernel
theorem dX7_isSo_9 : decode cX7_isSo 9 = .ok (.getfield 81, 3) := by decide +kernel
theorem dX7_isSo_12 : decode cX7_isSo 12 = .ok (.iload_n 2, 1) := by decide +kernel
theorem dX7_isSo_13 : decode cX7_isSo 13 = .ok (.iaload, 1) := by decide +kernel
theorem dX7_isSo_14 : decode cX7_isSo 14 = .ok (.if_icmp .gt 7, 3) := by decide +kernel
theorem dX7_isSo_17 : decode cX7_isSo 17 = .ok (.iconst 1, 1) := by decide +kernel
theorem dX7_isSo_18 : decode cX7_isSo 18 = .ok (.goto 4, 3) := by decide +kernel
theorem dX7_isSo_21 : decode cX7_isSo 21 = .ok (.iconst 0, 1) := by decide +kernel
theorem dX7_isSo_22 : decode cX7_isSo 22 = .ok (.ireturn, 1) := by decide +kernel
theorem dX7_isSo_23 : decode cX7_isSo 23 = .ok (.iload_n 1, 1) := by decide +kernel
theorem dX7_isSo_24 : decode cX7_isSo 24 = .ok (.iconst 1, 1) := by decide +kernel
theorem dX7_isSo_25 : decode cX7_isSo 25 = .ok (.if_icmp .ne 37, 3) := by decide +kernel
theorem dX7_isSo_28 : decode cX7_isSo 28 = .ok (.aload_n 0, 1) := by decide +kernel
theorem dX7_isSo_29 : decode cX7_isSo 29 = .ok (.getfield 156, 3) := by decide +kernel
theorem dX7_isSo_32 : decode cX7_isSo 32 = .ok (.aload_n 0, 1) := by decide +kernel
theorem dX7_isSo_33 : decode cX7_isSo 33 = .ok (.getfield 102, 3) := by decide +kernel
theorem dX7_isSo_36 : decode cX7_isSo 36 = .ok (.if_icmp .ge 24, 3) := by decide +kernel
theorem dX7_isSo_39 : decode cX7_isSo 39 = .ok (.iload_n 2, 1) := by decide +kernel
theorem dX7_isSo_40 : decode cX7_isSo 40 = .ok (.ifCond .eq 16, 3) := by decide +kernel
theorem dX7_isSo_43 : decode cX7_isSo 43 = .ok (.aload_n 0, 1) := by decide +kernel
theorem dX7_isSo_44 : decode cX7_isSo 44 = .ok (.getfield 156, 3) := by decide +kernel
theorem dX7_isSo_47 : decode cX7_isSo 47 = .ok (.aload_n 0, 1) := by decide +kernel
theorem dX7_isSo_48 : decode cX7_isSo 48 = .ok (.getfield 84, 3) := by decide +kernel
theorem dX7_isSo_51 : decode cX7_isSo 51 = .ok (.iconst 0, 1) := by decide +kernel
theorem dX7_isSo_52 : decode cX7_isSo 52 = .ok (.iaload, 1) := by decide +kernel
theorem dX7_isSo_53 : decode cX7_isSo 53 = .ok (.if_icmp .eq 7, 3) := by decide +kernel
theorem dX7_isSo_56 : decode cX7_isSo 56 = .ok (.iconst 1, 1) := by decide +kernel
theorem dX7_isSo_57 : decode cX7_isSo 57 = .ok (.goto 4, 3) := by decide +kernel
theorem dX7_isSo_60 : decode cX7_isSo 60 = .ok (.iconst 0, 1) := by decide +kernel
theorem dX7_isSo_61 : decode cX7_isSo 61 = .ok (.ireturn, 1) := by decide +kernel
theorem dX7_isSo_62 : decode cX7_isSo 62 = .ok (.iload_n 1, 1) := by decide +kernel
theorem dX7_isSo_63 : decode cX7_isSo 63 = .ok (.bipush 6, 2) := by decide +kernel
theorem dX7_isSo_65 : decode cX7_isSo 65 = .ok (.if_icmp .ne 22, 3) := by decide +kernel
theorem dX7_isSo_68 : decode cX7_isSo 68 = .ok (.aload_n 0, 1) := by decide +kernel
theorem dX7_isSo_69 : decode cX7_isSo 69 = .ok (.getfield 156, 3) := by decide +kernel
theorem dX7_isSo_72 : decode cX7_isSo 72 = .ok (.aload_n 0, 1) := by decide +kernel
theorem dX7_isSo_73 : decode cX7_isSo 73 = .ok (.getfield 102, 3) := by decide +kernel
theorem dX7_isSo_76 : decode cX7_isSo 76 = .ok (.if_icmp .ge 7, 3) := by decide +kernel
theorem dX7_isSo_79 : decode cX7_isSo 79 = .ok (.iconst 1, 1) := by decide +kernel
theorem dX7_isSo_80 : decode cX7_isSo 80 = .ok (.goto 18, 3) := by decide +kernel
theorem dX7_isSo_83 : decode cX7_isSo 83 = .ok (.iconst 0, 1) := by decide +kernel
theorem dX7_isSo_84 : decode cX7_isSo 84 = .ok (.goto 14, 3) := by decide +kernel
theorem dX7_isSo_87 : decode cX7_isSo 87 = .ok (.aload_n 0, 1) := by decide +kernel
theorem dX7_isSo_88 : decode cX7_isSo 88 = .ok (.iload_n 1, 1) := by decide +kernel
theorem dX7_isSo_89 : decode cX7_isSo 89 = .ok (.iconst 2, 1) := by decide +kernel
theorem dX7_isSo_90 : decode cX7_isSo 90 = .ok (.isub, 1) := by decide +kernel
theorem dX7_isSo_91 : decode cX7_isSo 91 = .ok (.aload_n 0, 1) := by decide +kernel
theorem dX7_isSo_92 : decode cX7_isSo 92 = .ok (.getfield 156, 3) := by decide +kernel
theorem dX7_isSo_95 : decode cX7_isSo 95 = .ok (.invokevirtual 134, 3) := by decide +kernel
theorem dX7_isSo_98 : decode cX7_isSo 98 = .ok (.ireturn, 1) := by decide +kernel
theorem dX7_item_0 : decode cX7_item 0 = .ok (.aload_n 0, 1) := by decide +kernel
theorem dX7_item_1 : decode cX7_item 1 = .ok (.getfield 102, 3) := by decide +kernel
theorem dX7_item_4 : decode cX7_item 4 = .ok (.bipush 10, 2) := by decide +kernel
theorem dX7_item_6 : decode cX7_item 6 = .ok (.if_icmp .ne 19, 3) := by decide +kernel
theorem dX7_item_9 : decode cX7_item 9 = .ok (.aload_n 0, 1) := by decide +kernel
theorem dX7_item_10 : decode cX7_item 10 = .ok (.invokevirtual 166, 3) := by decide +kernel
theorem dX7_item_13 : decode cX7_item 13 = .ok (.ifCond .eq 12, 3) := by decide +kernel
theorem dX7_item_16 : decode cX7_item 16 = .ok (.aload_n 0, 1) := by decide +kernel
theorem dX7_item_17 : decode cX7_item 17 = .ok (.aload_n 0, 1) := by decide +kernel
theorem dX7_item_18 : decode cX7_item 18 = .ok (.getfield 147, 3) := by decide +kernel
theorem dX7_item_21 : decode cX7_item 21 = .ok (.invokevirtual 163, 3) := by decide +kernel
theorem dX7_item_24 : decode cX7_item 24 = .ok (.ireturn, 1) := by decide +kernel
theorem dX7_item_25 : decode cX7_item 25 = .ok (.aload_n 0, 1) := by decide +kernel
theorem dX7_item_26 : decode cX7_item 26 = .ok (.invokevirtual 169, 3) := by decide +kernel
theorem dX7_item_29 : decode cX7_item 29 = .ok (.istore_n 1, 1) := by decide +kernel
theorem dX7_item_30 : decode cX7_item 30 = .ok (.iload_n 1, 1) := by decide +kernel
theorem dX7_item_31 : decode cX7_item 31 = .ok (.iconst (-1), 1) := by decide +kernel
theorem dX7_item_32 : decode cX7_item 32 = .ok (.if_icmp .ne 5, 3) := by decide +kernel
theorem dX7_item_35 : decode cX7_item 35 = .ok (.iconst 0, 1) := by decide +kernel
theorem dX7_item_36 : decode cX7_item 36 = .ok (.ireturn, 1) := by decide +kernel
theorem dX7_item_37 : decode cX7_item 37 = .ok (.iconst 0, 1) := by decide +kernel
theorem dX7_item_38 : decode cX7_item 38 = .ok (.istore_n 2, 1) := by decide +kernel
theorem dX7_item_39 : decode cX7_item 39 = .ok (.iload_n 2, 1) := by decide +kernel
theorem dX7_item_40 : decode cX7_item 40 = .ok (.aload_n 0, 1) := by decide +kernel
theorem dX7_item_41 : decode cX7_item 41 = .ok (.getfield 78, 3) := by decide +kernel
theorem dX7_item_44 : decode cX7_item 44 = .ok (.iload_n 1, 1) := by decide +kernel
theorem dX7_item_45 : decode cX7_item 45 = .ok (.iaload, 1) := by decide +kernel
theorem dX7_item_46 : decode cX7_item 46 = .ok (.if_icmp .ge 95, 3) := by decide +kernel
theorem dX7_item_49 : decode cX7_item 49 = .ok (.iload_n 2, 1) := by decide +kernel
theorem dX7_item_50 : decode cX7_item 50 = .ok (.ifCond .le 46, 3) := by decide +kernel
theorem dX7_item_53 : decode cX7_item 53 = .ok (.aload_n 0, 1) := by decide +kernel
theorem dX7_item_54 : decode cX7_item 54 = .ok (.getfield 147, 3) := by decide +kernel
theorem dX7_item_57 : decode cX7_item 57 = .ok (.aload_n 0, 1) := by decide +kernel
theorem dX7_item_58 : decode cX7_item 58 = .ok (.getfield 150, 3) := by decide +kernel
theorem dX7_item_61 : decode cX7_item 61 = .ok (.if_icmp .ge 16, 3) := by decide +kernel
theorem dX7_item_64 : decode cX7_item 64 = .ok (.aload_n 0, 1) := by decide +kernel
theorem dX7_item_65 : decode cX7_item 65 = .ok (.aload_n 0, 1) := by decide +kernel
theorem dX7_item_66 : decode cX7_item 66 = .ok (.getfield 147, 3) := by decide +kernel
theorem dX7_item_69 : decode cX7_item 69 = .ok (.invokevirtual 153, 3) := by decide +kernel
theorem dX7_item_72 : decode cX7_item 72 = .ok (.bipush 32, 2) := by decide +kernel
theorem dX7_item_74 : decode cX7_item 74 = .ok (.if_icmp .eq 12, 3) := by decide +kernel
theorem dX7_item_77 : decode cX7_item 77 = .ok (.aload_n 0, 1) := by decide +kernel
theorem dX7_item_78 : decode cX7_item 78 = .ok (.aload_n 0, 1) := by decide +kernel
theorem dX7_item_79 : decode cX7_item 79 = .ok (.getfield 147, 3) := by decide +kernel
theorem dX7_item_82 : decode cX7_item 82 = .ok (.invokevirtual 163, 3) := by decide +kernel
theorem dX7_item_85 : decode cX7_item 85 = .ok (.ireturn, 1) := by decide +kernel
theorem dX7_item_86 : decode cX7_item 86 = .ok (.aload_n 0, 1) := by decide +kernel
theorem dX7_item_87 : decode cX7_item 87 = .ok (.dup, 1) := by decide +kernel
theorem dX7_item_88 : decode cX7_item 88 = .ok (.getfield 147, 3) := by decide +kernel
theorem dX7_item_91 : decode cX7_item 91 = .ok (.iconst 1, 1) := by decide +kernel
theorem dX7_item_92 : decode cX7_item 92 = .ok (.iadd, 1) := by decide +kernel
theorem dX7_item_93 : decode cX7_item 93 = .ok (.putfield 147, 3) := by decide +kernel
theorem dX7_item_96 : decode cX7_item 96 = .ok (.aload_n 0, 1) := by decide +kernel
theorem dX7_item_97 : decode cX7_item 97 = .ok (.getfield 147, 3) := by decide +kernel
theorem dX7_item_100 : decode cX7_item 100 = .ok (.istore_n 3, 1) := by decide +kernel
theorem dX7_item_101 : decode cX7_item 101 = .ok (.aload_n 0, 1) := by decide +kernel
theorem dX7_item_102 : decode cX7_item 102 = .ok (.invokevirtual 173, 3) := by decide +kernel
theorem dX7_item_105 : decode cX7_item 105 = .ok (.ifCond .ne 5, 3) := by decide +kernel
theorem dX7_item_108 : decode cX7_item 108 = .ok (.iconst 0, 1) := by decide +kernel
theorem dX7_item_109 : decode cX7_item 109 = .ok (.ireturn, 1) := by decide +kernel
theorem dX7_item_110 : decode cX7_item 110 = .ok (.aload_n 0, 1) := by decide +kernel
theorem dX7_item_111 : decode cX7_item 111 = .ok (.iload_n 1, 1) := by decide +kernel
theorem dX7_item_112 : decode cX7_item 112 = .ok (.iload_n 2, 1) := by decide +kernel
theorem dX7_item_113 : decode cX7_item 113 = .ok (.invokevirtual 176, 3) := by decide +kernel
theorem dX7_item_116 : decode cX7_item 116 = .ok (.ifCond .ne 9, 3) := by decide +kernel
theorem dX7_item_119 : decode cX7_item 119 = .ok (.aload_n 0, 1) := by decide +kernel
theorem dX7_item_120 : decode cX7_item 120 = .ok (.iload_n 3, 1) := by decide +kernel
theorem dX7_item_121 : decode cX7_item 121 = .ok (.invokevirtual 163, 3) := by decide +kernel
theorem dX7_item_124 : decode cX7_item 124 = .ok (.ireturn, 1) := by decide +kernel
theorem dX7_item_125 : decode cX7_item 125 = .ok (.aload_n 0, 1) := by decide +kernel
theorem dX7_item_126 : decode cX7_item 126 = .ok (.getfield 84, 3) := by decide +kernel
theorem dX7_item_129 : decode cX7_item 129 = .ok (.iload_n 2, 1) := by decide +kernel
theorem dX7_item_130 : decode cX7_item 130 = .ok (.aload_n 0, 1) := by decide +kernel
theorem dX7_item_131 : decode cX7_item 131 = .ok (.getfield 156, 3) := by decide +kernel
theorem dX7_item_134 : decode cX7_item 134 = .ok (.iastore, 1) := by decide +kernel
theorem dX7_item_135 : decode cX7_item 135 = .ok (.iinc 2 1, 3) := by decide +kernel
theorem dX7_item_138 : decode cX7_item 138 = .ok (.goto (-99), 3) := by decide +kernel
theorem dX7_item_141 : decode cX7_item 141 = .ok (.iload_n 1, 1) := by decide +kernel
theorem dX7_item_142 : decode cX7_item 142 = .ok (.ifCond .ne 35, 3) := by decide +kernel
theorem dX7_item_145 : decode cX7_item 145 = .ok (.aload_n 0, 1) := by decide +kernel
theorem dX7_item_146 : decode cX7_item 146 = .ok (.aload_n 0, 1) := by decide +kernel
theorem dX7_item_147 : decode cX7_item 147 = .ok (.getfield 84, 3) := by decide +kernel
theorem dX7_item_150 : decode cX7_item 150 = .ok (.iconst 0, 1) := by decide +kernel
theorem dX7_item_151 : decode cX7_item 151 = .ok (.iaload, 1) := by decide +kernel
theorem dX7_item_152 : decode cX7_item 152 = .ok (.aload_n 0, 1) := by decide +kernel
theorem dX7_item_153 : decode cX7_item 153 = .ok (.getfield 84, 3) := by decide +kernel
theorem dX7_item_156 : decode cX7_item 156 = .ok (.iconst 1, 1) := by decide +kernel
theorem dX7_item_157 : decode cX7_item 157 = .ok (.iaload, 1) := by decide +kernel
theorem dX7_item_158 : decode cX7_item 158 = .ok (.aload_n 0, 1) := by decide +kernel
theorem dX7_item_159 : decode cX7_item 159 = .ok (.getfield 84, 3) := by decide +kernel
theorem dX7_item_162 : decode cX7_item 162 = .ok (.iconst 2, 1) := by decide +kernel
theorem dX7_item_163 : decode cX7_item 163 = .ok (.iaload, 1) := by decide +kernel
theorem dX7_item_164 : decode cX7_item 164 = .ok (.aload_n 0, 1) := by decide +kernel
theorem dX7_item_165 : decode cX7_item 165 = .ok (.getfield 84, 3) := by decide +kernel
theorem dX7_item_168 : decode cX7_item 168 = .ok (.iconst 3, 1) := by decide +kernel
theorem dX7_item_169 : decode cX7_item 169 = .ok (.iaload, 1) := by decide +kernel
theorem dX7_item_170 : decode cX7_item 170 = .ok (.invokevirtual 124, 3) := by decide +kernel
theorem dX7_item_173 : decode cX7_item 173 = .ok (.pop, 1) := by decide +kernel
theorem dX7_item_174 : decode cX7_item 174 = .ok (.goto 62, 3) := by decide +kernel
theorem dX7_item_177 : decode cX7_item 177 = .ok (.iload_n 1, 1) := by decide +kernel
theorem dX7_item_178 : decode cX7_item 178 = .ok (.iconst 1, 1) := by decide +kernel
theorem dX7_item_179 : decode cX7_item 179 = .ok (.if_icmp .ne 23, 3) := by decide +kernel
theorem dX7_item_182 : decode cX7_item 182 = .ok (.aload_n 0, 1) := by decide +kernel
theorem dX7_item_183 : decode cX7_item 183 = .ok (.getfield 41, 3) := by decide +kernel
theorem dX7_item_186 : decode cX7_item 186 = .ok (.aload_n 0, 1) := by decide +kernel
theorem dX7_item_187 : decode cX7_item 187 = .ok (.getfield 84, 3) := by decide +kernel
theorem dX7_item_190 : decode cX7_item 190 = .ok (.iconst 0, 1) := by decide +kernel
theorem dX7_item_191 : decode cX7_item 191 = .ok (.iaload, 1) := by decide +kernel
theorem dX7_item_192 : decode cX7_item 192 = .ok (.aload_n 0, 1) := by decide +kernel
theorem dX7_item_193 : decode cX7_item 193 = .ok (.getfield 84, 3) := by decide +kernel
theorem dX7_item_196 : decode cX7_item 196 = .ok (.iconst 1, 1) := by decide +kernel
theorem dX7_item_197 : decode cX7_item 197 = .ok (.iaload, 1) := by decide +kernel
theorem dX7_item_198 : decode cX7_item 198 = .ok (.iastore, 1) := by decide +kernel
theorem dX7_item_199 : decode cX7_item 199 = .ok (.goto 37, 3) := by decide +kernel
theorem dX7_item_202 : decode cX7_item 202 = .ok (.iload_n 1, 1) := by decide +kernel
theorem dX7_item_203 : decode cX7_item 203 = .ok (.bipush 6, 2) := by decide +kernel
theorem dX7_item_205 : decode cX7_item 205 = .ok (.if_icmp .ne 18, 3) := by decide +kernel
theorem dX7_item_208 : decode cX7_item 208 = .ok (.aload_n 0, 1) := by decide +kernel
theorem dX7_item_209 : decode cX7_item 209 = .ok (.getfield 53, 3) := by decide +kernel
theorem dX7_item_212 : decode cX7_item 212 = .ok (.aload_n 0, 1) := by decide +kernel
theorem dX7_item_213 : decode cX7_item 213 = .ok (.getfield 84, 3) := by decide +kernel
theorem dX7_item_216 : decode cX7_item 216 = .ok (.iconst 0, 1) := by decide +kernel
theorem dX7_item_217 : decode cX7_item 217 = .ok (.iaload, 1) := by decide +kernel
theorem dX7_item_218 : decode cX7_item 218 = .ok (.iconst 1, 1) := by decide +kernel
theorem dX7_item_219 : decode cX7_item 219 = .ok (.iastore, 1) := by decide +kernel
theorem dX7_item_220 : decode cX7_item 220 = .ok (.goto 16, 3) := by decide +kernel
theorem dX7_item_223 : decode cX7_item 223 = .ok (.aload_n 0, 1) := by decide +kernel
theorem dX7_item_224 : decode cX7_item 224 = .ok (.iload_n 1, 1) := by decide +kernel
theorem dX7_item_225 : decode cX7_item 225 = .ok (.iconst 2, 1) := by decide +kernel
theorem dX7_item_226 : decode cX7_item 226 = .ok (.isub, 1) := by decide +kernel
theorem dX7_item_227 : decode cX7_item 227 = .ok (.aload_n 0, 1) := by decide +kernel
theorem dX7_item_228 : decode cX7_item 228 = .ok (.getfield 84, 3) := by decide +kernel
theorem dX7_item_231 : decode cX7_item 231 = .ok (.iconst 0, 1) := by decide +kernel
theorem dX7_item_232 : decode cX7_item 232 = .ok (.iaload, 1) := by decide +kernel
theorem dX7_item_233 : decode cX7_item 233 = .ok (.invokevirtual 137, 3) := by decide +kernel
theorem dX7_item_236 : decode cX7_item 236 = .ok (.iconst 1, 1) := by decide +kernel
theorem dX7_item_237 : decode cX7_item 237 = .ok (.ireturn, 1) := by decide +kernel
theorem dX7_carries_0 : decode cX7_carries 0 = .ok (.iconst 0, 1) := by decide +kernel
theorem dX7_carries_1 : decode cX7_carries 1 = .ok (.istore 5, 2) := by decide +kernel
theorem dX7_carries_3 : decode cX7_carries 3 = .ok (.iload 5, 2) := by decide +kernel
theorem dX7_carries_5 : decode cX7_carries 5 = .ok (.bipush 10, 2) := by decide +kernel
theorem dX7_carries_7 : decode cX7_carries 7 = .ok (.if_icmp .ge 37, 3) := by decide +kernel
theorem dX7_carries_10 : decode cX7_carries 10 = .ok (.iload 4, 2) := by decide +kernel
theorem dX7_carries_12 : decode cX7_carries 12 = .ok (.ifCond .eq 16, 3) := by decide +kernel
theorem dX7_carries_15 : decode cX7_carries 15 = .ok (.aload_n 1, 1) := by decide +kernel
theorem dX7_carries_16 : decode cX7_carries 16 = .ok (.iload 5, 2) := by decide +kernel
theorem dX7_carries_18 : decode cX7_carries 18 = .ok (.aload_n 2, 1) := by decide +kernel
theorem dX7_carries_19 : decode cX7_carries 19 = .ok (.iload_n 3, 1) := by decide +kernel
theorem dX7_carries_20 : decode cX7_carries 20 = .ok (.iload 5, 2) := by decide +kernel
theorem dX7_carries_22 : decode cX7_carries 22 = .ok (.iadd, 1) := by decide +kernel
theorem dX7_carries_23 : decode cX7_carries 23 = .ok (.iaload, 1) := by decide +kernel
theorem dX7_carries_24 : decode cX7_carries 24 = .ok (.iastore, 1) := by decide +kernel
theorem dX7_carries_25 : decode cX7_carries 25 = .ok (.goto 13, 3) := by decide +kernel
theorem dX7_carries_28 : decode cX7_carries 28 = .ok (.aload_n 2, 1) := by decide +kernel
theorem dX7_carries_29 : decode cX7_carries 29 = .ok (.iload_n 3, 1) := by decide +kernel
theorem dX7_carries_30 : decode cX7_carries 30 = .ok (.iload 5, 2) := by decide +kernel
theorem dX7_carries_32 : decode cX7_carries 32 = .ok (.iadd, 1) := by decide +kernel
theorem dX7_carries_33 : decode cX7_carries 33 = .ok (.aload_n 1, 1) := by decide +kernel
theorem dX7_carries_34 : decode cX7_carries 34 = .ok (.iload 5, 2) := by decide +kernel
theorem dX7_carries_36 : decode cX7_carries 36 = .ok (.iaload, 1) := by decide +kernel
theorem dX7_carries_37 : decode cX7_carries 37 = .ok (.iastore, 1) := by decide +kernel
theorem dX7_carries_38 : decode cX7_carries 38 = .ok (.iinc 5 1, 3) := by decide +kernel
theorem dX7_carries_41 : decode cX7_carries 41 = .ok (.goto (-38), 3) := by decide +kernel
theorem dX7_carries_44 : decode cX7_carries 44 = .ok (.iload_n 3, 1) := by decide +kernel
theorem dX7_carries_45 : decode cX7_carries 45 = .ok (.bipush 10, 2) := by decide +kernel
theorem dX7_carries_47 : decode cX7_carries 47 = .ok (.iadd, 1) := by decide +kernel
theorem dX7_carries_48 : decode cX7_carries 48 = .ok (.ireturn, 1) := by decide +kernel
theorem dX7_all_0 : decode cX7_all 0 = .ok (.aload_n 0, 1) := by decide +kernel
theorem dX7_all_1 : decode cX7_all 1 = .ok (.aload_n 0, 1) := by decide +kernel
theorem dX7_all_2 : decode cX7_all 2 = .ok (.getfield 29, 3) := by decide +kernel
theorem dX7_all_5 : decode cX7_all 5 = .ok (.aload_n 1, 1) := by decide +kernel
theorem dX7_all_6 : decode cX7_all 6 = .ok (.iconst 0, 1) := by decide +kernel
theorem dX7_all_7 : decode cX7_all 7 = .ok (.iload_n 2, 1) := by decide +kernel
theorem dX7_all_8 : decode cX7_all 8 = .ok (.invokevirtual 179, 3) := by decide +kernel
theorem dX7_all_11 : decode cX7_all 11 = .ok (.istore_n 3, 1) := by decide +kernel
theorem dX7_all_12 : decode cX7_all 12 = .ok (.aload_n 0, 1) := by decide +kernel
theorem dX7_all_13 : decode cX7_all 13 = .ok (.aload_n 0, 1) := by decide +kernel
theorem dX7_all_14 : decode cX7_all 14 = .ok (.getfield 32, 3) := by decide +kernel
theorem dX7_all_17 : decode cX7_all 17 = .ok (.aload_n 1, 1) := by decide +kernel
theorem dX7_all_18 : decode cX7_all 18 = .ok (.iload_n 3, 1) := by decide +kernel
theorem dX7_all_19 : decode cX7_all 19 = .ok (.iload_n 2, 1) := by decide +kernel
theorem dX7_all_20 : decode cX7_all 20 = .ok (.invokevirtual 179, 3) := by decide +kernel
theorem dX7_all_23 : decode cX7_all 23 = .ok (.istore_n 3, 1) := by decide +kernel
theorem dX7_all_24 : decode cX7_all 24 = .ok (.aload_n 0, 1) := by decide +kernel
theorem dX7_all_25 : decode cX7_all 25 = .ok (.aload_n 0, 1) := by decide +kernel
theorem dX7_all_26 : decode cX7_all 26 = .ok (.getfield 35, 3) := by decide +kernel
theorem dX7_all_29 : decode cX7_all 29 = .ok (.aload_n 1, 1) := by decide +kernel
theorem dX7_all_30 : decode cX7_all 30 = .ok (.iload_n 3, 1) := by decide +kernel
theorem dX7_all_31 : decode cX7_all 31 = .ok (.iload_n 2, 1) := by decide +kernel
theorem dX7_all_32 : decode cX7_all 32 = .ok (.invokevirtual 179, 3) := by decide +kernel
theorem dX7_all_35 : decode cX7_all 35 = .ok (.istore_n 3, 1) := by decide +kernel
theorem dX7_all_36 : decode cX7_all 36 = .ok (.aload_n 0, 1) := by decide +kernel
theorem dX7_all_37 : decode cX7_all 37 = .ok (.aload_n 0, 1) := by decide +kernel
theorem dX7_all_38 : decode cX7_all 38 = .ok (.getfield 38, 3) := by decide +kernel
theorem dX7_all_41 : decode cX7_all 41 = .ok (.aload_n 1, 1) := by decide +kernel
theorem dX7_all_42 : decode cX7_all 42 = .ok (.iload_n 3, 1) := by decide +kernel
theorem dX7_all_43 : decode cX7_all 43 = .ok (.iload_n 2, 1) := by decide +kernel
theorem dX7_all_44 : decode cX7_all 44 = .ok (.invokevirtual 179, 3) := by decide +kernel
theorem dX7_all_47 : decode cX7_all 47 = .ok (.istore_n 3, 1) := by decide +kernel
theorem dX7_all_48 : decode cX7_all 48 = .ok (.aload_n 0, 1) := by decide +kernel
theorem dX7_all_49 : decode cX7_all 49 = .ok (.aload_n 0, 1) := by decide +kernel
theorem dX7_all_50 : decode cX7_all 50 = .ok (.getfield 41, 3) := by decide +kernel
theorem dX7_all_53 : decode cX7_all 53 = .ok (.aload_n 1, 1) := by decide +kernel
theorem dX7_all_54 : decode cX7_all 54 = .ok (.iload_n 3, 1) := by decide +kernel
theorem dX7_all_55 : decode cX7_all 55 = .ok (.iload_n 2, 1) := by decide +kernel
theorem dX7_all_56 : decode cX7_all 56 = .ok (.invokevirtual 179, 3) := by decide +kernel
theorem dX7_all_59 : decode cX7_all 59 = .ok (.istore_n 3, 1) := by decide +kernel
theorem dX7_all_60 : decode cX7_all 60 = .ok (.aload_n 0, 1) := by decide +kernel
theorem dX7_all_61 : decode cX7_all 61 = .ok (.aload_n 0, 1) := by decide +kernel
theorem dX7_all_62 : decode cX7_all 62 = .ok (.getfield 44, 3) := by decide +kernel
theorem dX7_all_65 : decode cX7_all 65 = .ok (.aload_n 1, 1) := by decide +kernel
theorem dX7_all_66 : decode cX7_all 66 = .ok (.iload_n 3, 1) := by decide +kernel
theorem dX7_all_67 : decode cX7_all 67 = .ok (.iload_n 2, 1) := by decide +kernel
theorem dX7_all_68 : decode cX7_all 68 = .ok (.invokevirtual 179, 3) := by decide +kernel
theorem dX7_all_71 : decode cX7_all 71 = .ok (.istore_n 3, 1) := by decide +kernel
theorem dX7_all_72 : decode cX7_all 72 = .ok (.aload_n 0, 1) := by decide +kernel
theorem dX7_all_73 : decode cX7_all 73 = .ok (.aload_n 0, 1) := by decide +kernel
theorem dX7_all_74 : decode cX7_all 74 = .ok (.getfield 47, 3) := by decide +kernel
theorem dX7_all_77 : decode cX7_all 77 = .ok (.aload_n 1, 1) := by decide +kernel
theorem dX7_all_78 : decode cX7_all 78 = .ok (.iload_n 3, 1) := by decide +kernel
theorem dX7_all_79 : decode cX7_all 79 = .ok (.iload_n 2, 1) := by decide +kernel
theorem dX7_all_80 : decode cX7_all 80 = .ok (.invokevirtual 179, 3) := by decide +kernel
theorem dX7_all_83 : decode cX7_all 83 = .ok (.istore_n 3, 1) := by decide +kernel
theorem dX7_all_84 : decode cX7_all 84 = .ok (.aload_n 0, 1) := by decide +kernel
theorem dX7_all_85 : decode cX7_all 85 = .ok (.aload_n 0, 1) := by decide +kernel
theorem dX7_all_86 : decode cX7_all 86 = .ok (.getfield 50, 3) := by decide +kernel
theorem dX7_all_89 : decode cX7_all 89 = .ok (.aload_n 1, 1) := by decide +kernel
theorem dX7_all_90 : decode cX7_all 90 = .ok (.iload_n 3, 1) := by decide +kernel
theorem dX7_all_91 : decode cX7_all 91 = .ok (.iload_n 2, 1) := by decide +kernel
theorem dX7_all_92 : decode cX7_all 92 = .ok (.invokevirtual 179, 3) := by decide +kernel
theorem dX7_all_95 : decode cX7_all 95 = .ok (.istore_n 3, 1) := by decide +kernel
theorem dX7_all_96 : decode cX7_all 96 = .ok (.aload_n 0, 1) := by decide +kernel
theorem dX7_all_97 : decode cX7_all 97 = .ok (.aload_n 0, 1) := by decide +kernel
theorem dX7_all_98 : decode cX7_all 98 = .ok (.getfield 53, 3) := by decide +kernel
theorem dX7_all_101 : decode cX7_all 101 = .ok (.aload_n 1, 1) := by decide +kernel
theorem dX7_all_102 : decode cX7_all 102 = .ok (.iload_n 3, 1) := by decide +kernel
theorem dX7_all_103 : decode cX7_all 103 = .ok (.iload_n 2, 1) := by decide +kernel
theorem dX7_all_104 : decode cX7_all 104 = .ok (.invokevirtual 179, 3) := by decide +kernel
theorem dX7_all_107 : decode cX7_all 107 = .ok (.istore_n 3, 1) := by decide +kernel
theorem dX7_all_108 : decode cX7_all 108 = .ok (.iload_n 2, 1) := by decide +kernel
theorem dX7_all_109 : decode cX7_all 109 = .ok (.ifCond .eq 68, 3) := by decide +kernel
theorem dX7_all_112 : decode cX7_all 112 = .ok (.aload_n 0, 1) := by decide +kernel
theorem dX7_all_113 : decode cX7_all 113 = .ok (.aload_n 1, 1) := by decide +kernel
theorem dX7_all_114 : decode cX7_all 114 = .ok (.iload_n 3, 1) := by decide +kernel
theorem dX7_all_115 : decode cX7_all 115 = .ok (.iaload, 1) := by decide +kernel
theorem dX7_all_116 : decode cX7_all 116 = .ok (.putfield 102, 3) := by decide +kernel
theorem dX7_all_119 : decode cX7_all 119 = .ok (.aload_n 0, 1) := by decide +kernel
theorem dX7_all_120 : decode cX7_all 120 = .ok (.aload_n 1, 1) := by decide +kernel
theorem dX7_all_121 : decode cX7_all 121 = .ok (.iload_n 3, 1) := by decide +kernel
theorem dX7_all_122 : decode cX7_all 122 = .ok (.iconst 1, 1) := by decide +kernel
theorem dX7_all_123 : decode cX7_all 123 = .ok (.iadd, 1) := by decide +kernel
theorem dX7_all_124 : decode cX7_all 124 = .ok (.iaload, 1) := by decide +kernel
theorem dX7_all_125 : decode cX7_all 125 = .ok (.putfield 7, 3) := by decide +kernel
theorem dX7_all_128 : decode cX7_all 128 = .ok (.aload_n 0, 1) := by decide +kernel
theorem dX7_all_129 : decode cX7_all 129 = .ok (.aload_n 1, 1) := by decide +kernel
theorem dX7_all_130 : decode cX7_all 130 = .ok (.iload_n 3, 1) := by decide +kernel
theorem dX7_all_131 : decode cX7_all 131 = .ok (.iconst 2, 1) := by decide +kernel
theorem dX7_all_132 : decode cX7_all 132 = .ok (.iadd, 1) := by decide +kernel
theorem dX7_all_133 : decode cX7_all 133 = .ok (.iaload, 1) := by decide +kernel
theorem dX7_all_134 : decode cX7_all 134 = .ok (.putfield 131, 3) := by decide +kernel
theorem dX7_all_137 : decode cX7_all 137 = .ok (.aload_n 0, 1) := by decide +kernel
theorem dX7_all_138 : decode cX7_all 138 = .ok (.aload_n 1, 1) := by decide +kernel
theorem dX7_all_139 : decode cX7_all 139 = .ok (.iload_n 3, 1) := by decide +kernel
theorem dX7_all_140 : decode cX7_all 140 = .ok (.iconst 3, 1) := by decide +kernel
theorem dX7_all_141 : decode cX7_all 141 = .ok (.iadd, 1) := by decide +kernel
theorem dX7_all_142 : decode cX7_all 142 = .ok (.iaload, 1) := by decide +kernel
theorem dX7_all_143 : decode cX7_all 143 = .ok (.putfield 13, 3) := by decide +kernel
theorem dX7_all_146 : decode cX7_all 146 = .ok (.aload_n 0, 1) := by decide +kernel
theorem dX7_all_147 : decode cX7_all 147 = .ok (.aload_n 1, 1) := by decide +kernel
theorem dX7_all_148 : decode cX7_all 148 = .ok (.iload_n 3, 1) := by decide +kernel
theorem dX7_all_149 : decode cX7_all 149 = .ok (.iconst 4, 1) := by decide +kernel
theorem dX7_all_150 : decode cX7_all 150 = .ok (.iadd, 1) := by decide +kernel
theorem dX7_all_151 : decode cX7_all 151 = .ok (.iaload, 1) := by decide +kernel
theorem dX7_all_152 : decode cX7_all 152 = .ok (.putfield 16, 3) := by decide +kernel
theorem dX7_all_155 : decode cX7_all 155 = .ok (.aload_n 0, 1) := by decide +kernel
theorem dX7_all_156 : decode cX7_all 156 = .ok (.aload_n 1, 1) := by decide +kernel
theorem dX7_all_157 : decode cX7_all 157 = .ok (.iload_n 3, 1) := by decide +kernel
theorem dX7_all_158 : decode cX7_all 158 = .ok (.iconst 5, 1) := by decide +kernel
theorem dX7_all_159 : decode cX7_all 159 = .ok (.iadd, 1) := by decide +kernel
theorem dX7_all_160 : decode cX7_all 160 = .ok (.iaload, 1) := by decide +kernel
theorem dX7_all_161 : decode cX7_all 161 = .ok (.putfield 183, 3) := by decide +kernel
theorem dX7_all_164 : decode cX7_all 164 = .ok (.aload_n 0, 1) := by decide +kernel
theorem dX7_all_165 : decode cX7_all 165 = .ok (.aload_n 1, 1) := by decide +kernel
theorem dX7_all_166 : decode cX7_all 166 = .ok (.iload_n 3, 1) := by decide +kernel
theorem dX7_all_167 : decode cX7_all 167 = .ok (.bipush 6, 2) := by decide +kernel
theorem dX7_all_169 : decode cX7_all 169 = .ok (.iadd, 1) := by decide +kernel
theorem dX7_all_170 : decode cX7_all 170 = .ok (.iaload, 1) := by decide +kernel
theorem dX7_all_171 : decode cX7_all 171 = .ok (.putfield 19, 3) := by decide +kernel
theorem dX7_all_174 : decode cX7_all 174 = .ok (.goto 65, 3) := by decide +kernel
theorem dX7_all_177 : decode cX7_all 177 = .ok (.aload_n 1, 1) := by decide +kernel
theorem dX7_all_178 : decode cX7_all 178 = .ok (.iload_n 3, 1) := by decide +kernel
theorem dX7_all_179 : decode cX7_all 179 = .ok (.aload_n 0, 1) := by decide +kernel
theorem dX7_all_180 : decode cX7_all 180 = .ok (.getfield 102, 3) := by decide +kernel
theorem dX7_all_183 : decode cX7_all 183 = .ok (.iastore, 1) := by decide +kernel
theorem dX7_all_184 : decode cX7_all 184 = .ok (.aload_n 1, 1) := by decide +kernel
theorem dX7_all_185 : decode cX7_all 185 = .ok (.iload_n 3, 1) := by decide +kernel
theorem dX7_all_186 : decode cX7_all 186 = .ok (.iconst 1, 1) := by decide +kernel
theorem dX7_all_187 : decode cX7_all 187 = .ok (.iadd, 1) := by decide +kernel
theorem dX7_all_188 : decode cX7_all 188 = .ok (.aload_n 0, 1) := by decide +kernel
theorem dX7_all_189 : decode cX7_all 189 = .ok (.getfield 7, 3) := by decide +kernel
theorem dX7_all_192 : decode cX7_all 192 = .ok (.iastore, 1) := by decide +kernel
theorem dX7_all_193 : decode cX7_all 193 = .ok (.aload_n 1, 1) := by decide +kernel
theorem dX7_all_194 : decode cX7_all 194 = .ok (.iload_n 3, 1) := by decide +kernel
theorem dX7_all_195 : decode cX7_all 195 = .ok (.iconst 2, 1) := by decide +kernel
theorem dX7_all_196 : decode cX7_all 196 = .ok (.iadd, 1) := by decide +kernel
theorem dX7_all_197 : decode cX7_all 197 = .ok (.aload_n 0, 1) := by decide +kernel
theorem dX7_all_198 : decode cX7_all 198 = .ok (.getfield 131, 3) := by decide +kernel
theorem dX7_all_201 : decode cX7_all 201 = .ok (.iastore, 1) := by decide +kernel
theorem dX7_all_202 : decode cX7_all 202 = .ok (.aload_n 1, 1) := by decide +kernel
theorem dX7_all_203 : decode cX7_all 203 = .ok (.iload_n 3, 1) := by decide +kernel
theorem dX7_all_204 : decode cX7_all 204 = .ok (.iconst 3, 1) := by decide +kernel
theorem dX7_all_205 : decode cX7_all 205 = .ok (.iadd, 1) := by decide +kernel
theorem dX7_all_206 : decode cX7_all 206 = .ok (.aload_n 0, 1) := by decide +kernel
theorem dX7_all_207 : decode cX7_all 207 = .ok (.getfield 13, 3) := by decide +kernel
theorem dX7_all_210 : decode cX7_all 210 = .ok (.iastore, 1) := by decide +kernel
theorem dX7_all_211 : decode cX7_all 211 = .ok (.aload_n 1, 1) := by decide +kernel
theorem dX7_all_212 : decode cX7_all 212 = .ok (.iload_n 3, 1) := by decide +kernel
theorem dX7_all_213 : decode cX7_all 213 = .ok (.iconst 4, 1) := by decide +kernel
theorem dX7_all_214 : decode cX7_all 214 = .ok (.iadd, 1) := by decide +kernel
theorem dX7_all_215 : decode cX7_all 215 = .ok (.aload_n 0, 1) := by decide +kernel
theorem dX7_all_216 : decode cX7_all 216 = .ok (.getfield 16, 3) := by decide +kernel
theorem dX7_all_219 : decode cX7_all 219 = .ok (.iastore, 1) := by decide +kernel
theorem dX7_all_220 : decode cX7_all 220 = .ok (.aload_n 1, 1) := by decide +kernel
theorem dX7_all_221 : decode cX7_all 221 = .ok (.iload_n 3, 1) := by decide +kernel
theorem dX7_all_222 : decode cX7_all 222 = .ok (.iconst 5, 1) := by decide +kernel
theorem dX7_all_223 : decode cX7_all 223 = .ok (.iadd, 1) := by decide +kernel
theorem dX7_all_224 : decode cX7_all 224 = .ok (.aload_n 0, 1) := by decide +kernel
theorem dX7_all_225 : decode cX7_all 225 = .ok (.getfield 183, 3) := by decide +kernel
theorem dX7_all_228 : decode cX7_all 228 = .ok (.iastore, 1) := by decide +kernel
theorem dX7_all_229 : decode cX7_all 229 = .ok (.aload_n 1, 1) := by decide +kernel
theorem dX7_all_230 : decode cX7_all 230 = .ok (.iload_n 3, 1) := by decide +kernel
theorem dX7_all_231 : decode cX7_all 231 = .ok (.bipush 6, 2) := by decide +kernel
theorem dX7_all_233 : decode cX7_all 233 = .ok (.iadd, 1) := by decide +kernel
theorem dX7_all_234 : decode cX7_all 234 = .ok (.aload_n 0, 1) := by decide +kernel
theorem dX7_all_235 : decode cX7_all 235 = .ok (.getfield 19, 3) := by decide +kernel
theorem dX7_all_238 : decode cX7_all 238 = .ok (.iastore, 1) := by decide +kernel
theorem dX7_all_239 : decode cX7_all 239 = .ok (.return_, 1) := by decide +kernel
theorem dX7_school_0 : decode cX7_school 0 = .ok (.aload_n 0, 1) := by decide +kernel
theorem dX7_school_1 : decode cX7_school 1 = .ok (.iload_n 1, 1) := by decide +kernel
theorem dX7_school_2 : decode cX7_school 2 = .ok (.invokevirtual 186, 3) := by decide +kernel
theorem dX7_school_5 : decode cX7_school 5 = .ok (.istore_n 2, 1) := by decide +kernel
theorem dX7_school_6 : decode cX7_school 6 = .ok (.iload_n 2, 1) := by decide +kernel
theorem dX7_school_7 : decode cX7_school 7 = .ok (.ifCond .eq 9, 3) := by decide +kernel
theorem dX7_school_10 : decode cX7_school 10 = .ok (.aload_n 0, 1) := by decide +kernel
theorem dX7_school_11 : decode cX7_school 11 = .ok (.iload_n 2, 1) := by decide +kernel
theorem dX7_school_12 : decode cX7_school 12 = .ok (.invokevirtual 109, 3) := by decide +kernel
theorem dX7_school_15 : decode cX7_school 15 = .ok (.ireturn, 1) := by decide +kernel
theorem dX7_school_16 : decode cX7_school 16 = .ok (.aload_n 0, 1) := by decide +kernel
theorem dX7_school_17 : decode cX7_school 17 = .ok (.aload_n 0, 1) := by decide +kernel
theorem dX7_school_18 : decode cX7_school 18 = .ok (.getfield 87, 3) := by decide +kernel
theorem dX7_school_21 : decode cX7_school 21 = .ok (.iconst 0, 1) := by decide +kernel
theorem dX7_school_22 : decode cX7_school 22 = .ok (.invokevirtual 189, 3) := by decide +kernel
theorem dX7_school_25 : decode cX7_school 25 = .ok (.aload_n 0, 1) := by decide +kernel
theorem dX7_school_26 : decode cX7_school 26 = .ok (.sipush 160, 3) := by decide +kernel
theorem dX7_school_29 : decode cX7_school 29 = .ok (.iload_n 1, 1) := by decide +kernel
theorem dX7_school_30 : decode cX7_school 30 = .ok (.imul, 1) := by decide +kernel
theorem dX7_school_31 : decode cX7_school 31 = .ok (.putfield 144, 3) := by decide +kernel
theorem dX7_school_34 : decode cX7_school 34 = .ok (.aload_n 0, 1) := by decide +kernel
theorem dX7_school_35 : decode cX7_school 35 = .ok (.iconst 0, 1) := by decide +kernel
theorem dX7_school_36 : decode cX7_school 36 = .ok (.putfield 147, 3) := by decide +kernel
theorem dX7_school_39 : decode cX7_school 39 = .ok (.aload_n 0, 1) := by decide +kernel
theorem dX7_school_40 : decode cX7_school 40 = .ok (.aload_n 0, 1) := by decide +kernel
theorem dX7_school_41 : decode cX7_school 41 = .ok (.getfield 62, 3) := by decide +kernel
theorem dX7_school_44 : decode cX7_school 44 = .ok (.iload_n 1, 1) := by decide +kernel
theorem dX7_school_45 : decode cX7_school 45 = .ok (.iaload, 1) := by decide +kernel
theorem dX7_school_46 : decode cX7_school 46 = .ok (.putfield 150, 3) := by decide +kernel
theorem dX7_school_49 : decode cX7_school 49 = .ok (.aload_n 0, 1) := by decide +kernel
theorem dX7_school_50 : decode cX7_school 50 = .ok (.iconst (-1), 1) := by decide +kernel
theorem dX7_school_51 : decode cX7_school 51 = .ok (.putfield 22, 3) := by decide +kernel
theorem dX7_school_54 : decode cX7_school 54 = .ok (.iconst 1, 1) := by decide +kernel
theorem dX7_school_55 : decode cX7_school 55 = .ok (.istore_n 3, 1) := by decide +kernel
theorem dX7_school_56 : decode cX7_school 56 = .ok (.aload_n 0, 1) := by decide +kernel
theorem dX7_school_57 : decode cX7_school 57 = .ok (.invokevirtual 193, 3) := by decide +kernel
theorem dX7_school_60 : decode cX7_school 60 = .ok (.istore 4, 2) := by decide +kernel
theorem dX7_school_62 : decode cX7_school 62 = .ok (.iload 4, 2) := by decide +kernel
theorem dX7_school_64 : decode cX7_school 64 = .ok (.ifCond .eq 62, 3) := by decide +kernel
theorem dX7_school_67 : decode cX7_school 67 = .ok (.aload_n 0, 1) := by decide +kernel
theorem dX7_school_68 : decode cX7_school 68 = .ok (.getfield 147, 3) := by decide +kernel
theorem dX7_school_71 : decode cX7_school 71 = .ok (.aload_n 0, 1) := by decide +kernel
theorem dX7_school_72 : decode cX7_school 72 = .ok (.getfield 150, 3) := by decide +kernel
theorem dX7_school_75 : decode cX7_school 75 = .ok (.if_icmp .ge 51, 3) := by decide +kernel
theorem dX7_school_78 : decode cX7_school 78 = .ok (.aload_n 0, 1) := by decide +kernel
theorem dX7_school_79 : decode cX7_school 79 = .ok (.aload_n 0, 1) := by decide +kernel
theorem dX7_school_80 : decode cX7_school 80 = .ok (.getfield 147, 3) := by decide +kernel
theorem dX7_school_83 : decode cX7_school 83 = .ok (.invokevirtual 153, 3) := by decide +kernel
theorem dX7_school_86 : decode cX7_school 86 = .ok (.bipush 59, 2) := by decide +kernel
theorem dX7_school_88 : decode cX7_school 88 = .ok (.if_icmp .eq 16, 3) := by decide +kernel
theorem dX7_school_91 : decode cX7_school 91 = .ok (.aload_n 0, 1) := by decide +kernel
theorem dX7_school_92 : decode cX7_school 92 = .ok (.aload_n 0, 1) := by decide +kernel
theorem dX7_school_93 : decode cX7_school 93 = .ok (.getfield 147, 3) := by decide +kernel
theorem dX7_school_96 : decode cX7_school 96 = .ok (.invokevirtual 163, 3) := by decide +kernel
theorem dX7_school_99 : decode cX7_school 99 = .ok (.istore 4, 2) := by decide +kernel
theorem dX7_school_101 : decode cX7_school 101 = .ok (.goto (-39), 3) := by decide +kernel
theorem dX7_school_104 : decode cX7_school 104 = .ok (.aload_n 0, 1) := by decide +kernel
theorem dX7_school_105 : decode cX7_school 105 = .ok (.dup, 1) := by decide +kernel
theorem dX7_school_106 : decode cX7_school 106 = .ok (.getfield 147, 3) := by decide +kernel
theorem dX7_school_109 : decode cX7_school 109 = .ok (.iconst 1, 1) := by decide +kernel
theorem dX7_school_110 : decode cX7_school 110 = .ok (.iadd, 1) := by decide +kernel
theorem dX7_school_111 : decode cX7_school 111 = .ok (.putfield 147, 3) := by decide +kernel
theorem dX7_school_114 : decode cX7_school 114 = .ok (.iinc 3 1, 3) := by decide +kernel
theorem dX7_school_117 : decode cX7_school 117 = .ok (.aload_n 0, 1) := by decide +kernel
theorem dX7_school_118 : decode cX7_school 118 = .ok (.invokevirtual 193, 3) := by decide +kernel
theorem dX7_school_121 : decode cX7_school 121 = .ok (.istore 4, 2) := by decide +kernel
theorem dX7_school_123 : decode cX7_school 123 = .ok (.goto (-61), 3) := by decide +kernel
theorem dX7_school_126 : decode cX7_school 126 = .ok (.iload 4, 2) := by decide +kernel
theorem dX7_school_128 : decode cX7_school 128 = .ok (.ifCond .eq 5, 3) := by decide +kernel
theorem dX7_school_131 : decode cX7_school 131 = .ok (.iload_n 3, 1) := by decide +kernel
theorem dX7_school_132 : decode cX7_school 132 = .ok (.ireturn, 1) := by decide +kernel
theorem dX7_school_133 : decode cX7_school 133 = .ok (.aload_n 0, 1) := by decide +kernel
theorem dX7_school_134 : decode cX7_school 134 = .ok (.aload_n 0, 1) := by decide +kernel
theorem dX7_school_135 : decode cX7_school 135 = .ok (.getfield 87, 3) := by decide +kernel
theorem dX7_school_138 : decode cX7_school 138 = .ok (.iconst 1, 1) := by decide +kernel
theorem dX7_school_139 : decode cX7_school 139 = .ok (.invokevirtual 189, 3) := by decide +kernel
theorem dX7_school_142 : decode cX7_school 142 = .ok (.aload_n 0, 1) := by decide +kernel
theorem dX7_school_143 : decode cX7_school 143 = .ok (.aload_n 0, 1) := by decide +kernel
theorem dX7_school_144 : decode cX7_school 144 = .ok (.getfield 141, 3) := by decide +kernel
theorem dX7_school_147 : decode cX7_school 147 = .ok (.putfield 22, 3) := by decide +kernel
theorem dX7_school_150 : decode cX7_school 150 = .ok (.aload_n 0, 1) := by decide +kernel
theorem dX7_school_151 : decode cX7_school 151 = .ok (.bipush (-6), 2) := by decide +kernel
theorem dX7_school_153 : decode cX7_school 153 = .ok (.invokevirtual 109, 3) := by decide +kernel
theorem dX7_school_156 : decode cX7_school 156 = .ok (.ireturn, 1) := by decide +kernel
theorem dX7_fault_0 : decode cX7_fault 0 = .ok (.aload_n 0, 1) := by decide +kernel
theorem dX7_fault_1 : decode cX7_fault 1 = .ok (.getfield 22, 3) := by decide +kernel
theorem dX7_fault_4 : decode cX7_fault 4 = .ok (.ireturn, 1) := by decide +kernel
theorem dX7_wills_0 : decode cX7_wills 0 = .ok (.aload_n 0, 1) := by decide +kernel
theorem dX7_wills_1 : decode cX7_wills 1 = .ok (.getfield 7, 3) := by decide +kernel
theorem dX7_wills_4 : decode cX7_wills 4 = .ok (.aload_n 0, 1) := by decide +kernel
theorem dX7_wills_5 : decode cX7_wills 5 = .ok (.getfield 35, 3) := by decide +kernel
theorem dX7_wills_8 : decode cX7_wills 8 = .ok (.iload_n 1, 1) := by decide +kernel
theorem dX7_wills_9 : decode cX7_wills 9 = .ok (.iaload, 1) := by decide +kernel
theorem dX7_wills_10 : decode cX7_wills 10 = .ok (.if_icmp .le 17, 3) := by decide +kernel
theorem dX7_wills_13 : decode cX7_wills 13 = .ok (.aload_n 0, 1) := by decide +kernel
theorem dX7_wills_14 : decode cX7_wills 14 = .ok (.getfield 7, 3) := by decide +kernel
theorem dX7_wills_17 : decode cX7_wills 17 = .ok (.aload_n 0, 1) := by decide +kernel
theorem dX7_wills_18 : decode cX7_wills 18 = .ok (.getfield 35, 3) := by decide +kernel
theorem dX7_wills_21 : decode cX7_wills 21 = .ok (.iload_n 1, 1) := by decide +kernel
theorem dX7_wills_22 : decode cX7_wills 22 = .ok (.iaload, 1) := by decide +kernel
theorem dX7_wills_23 : decode cX7_wills 23 = .ok (.isub, 1) := by decide +kernel
theorem dX7_wills_24 : decode cX7_wills 24 = .ok (.goto 14, 3) := by decide +kernel
theorem dX7_wills_27 : decode cX7_wills 27 = .ok (.aload_n 0, 1) := by decide +kernel
theorem dX7_wills_28 : decode cX7_wills 28 = .ok (.getfield 35, 3) := by decide +kernel
theorem dX7_wills_31 : decode cX7_wills 31 = .ok (.iload_n 1, 1) := by decide +kernel
theorem dX7_wills_32 : decode cX7_wills 32 = .ok (.iaload, 1) := by decide +kernel
theorem dX7_wills_33 : decode cX7_wills 33 = .ok (.aload_n 0, 1) := by decide +kernel
theorem dX7_wills_34 : decode cX7_wills 34 = .ok (.getfield 7, 3) := by decide +kernel
theorem dX7_wills_37 : decode cX7_wills 37 = .ok (.isub, 1) := by decide +kernel
theorem dX7_wills_38 : decode cX7_wills 38 = .ok (.iconst 2, 1) := by decide +kernel
theorem dX7_wills_39 : decode cX7_wills 39 = .ok (.idiv, 1) := by decide +kernel
theorem dX7_wills_40 : decode cX7_wills 40 = .ok (.istore_n 2, 1) := by decide +kernel
theorem dX7_wills_41 : decode cX7_wills 41 = .ok (.iconst 4, 1) := by decide +kernel
theorem dX7_wills_42 : decode cX7_wills 42 = .ok (.aload_n 0, 1) := by decide +kernel
theorem dX7_wills_43 : decode cX7_wills 43 = .ok (.getfield 183, 3) := by decide +kernel
theorem dX7_wills_46 : decode cX7_wills 46 = .ok (.iconst 3, 1) := by decide +kernel
theorem dX7_wills_47 : decode cX7_wills 47 = .ok (.idiv, 1) := by decide +kernel
theorem dX7_wills_48 : decode cX7_wills 48 = .ok (.isub, 1) := by decide +kernel
theorem dX7_wills_49 : decode cX7_wills 49 = .ok (.istore_n 3, 1) := by decide +kernel
theorem dX7_wills_50 : decode cX7_wills 50 = .ok (.bipush 12, 2) := by decide +kernel
theorem dX7_wills_52 : decode cX7_wills 52 = .ok (.aload_n 0, 1) := by decide +kernel
theorem dX7_wills_53 : decode cX7_wills 53 = .ok (.getfield 131, 3) := by decide +kernel
theorem dX7_wills_56 : decode cX7_wills 56 = .ok (.isub, 1) := by decide +kernel
theorem dX7_wills_57 : decode cX7_wills 57 = .ok (.iload_n 2, 1) := by decide +kernel
theorem dX7_wills_58 : decode cX7_wills 58 = .ok (.isub, 1) := by decide +kernel
theorem dX7_wills_59 : decode cX7_wills 59 = .ok (.iconst 2, 1) := by decide +kernel
theorem dX7_wills_60 : decode cX7_wills 60 = .ok (.aload_n 0, 1) := by decide +kernel
theorem dX7_wills_61 : decode cX7_wills 61 = .ok (.getfield 44, 3) := by decide +kernel
theorem dX7_wills_64 : decode cX7_wills 64 = .ok (.iload_n 1, 1) := by decide +kernel
theorem dX7_wills_65 : decode cX7_wills 65 = .ok (.iaload, 1) := by decide +kernel
theorem dX7_wills_66 : decode cX7_wills 66 = .ok (.imul, 1) := by decide +kernel
theorem dX7_wills_67 : decode cX7_wills 67 = .ok (.isub, 1) := by decide +kernel
theorem dX7_wills_68 : decode cX7_wills 68 = .ok (.istore 4, 2) := by decide +kernel
theorem dX7_wills_70 : decode cX7_wills 70 = .ok (.aload_n 0, 1) := by decide +kernel
theorem dX7_wills_71 : decode cX7_wills 71 = .ok (.getfield 38, 3) := by decide +kernel
theorem dX7_wills_74 : decode cX7_wills 74 = .ok (.iload_n 1, 1) := by decide +kernel
theorem dX7_wills_75 : decode cX7_wills 75 = .ok (.iaload, 1) := by decide +kernel
theorem dX7_wills_76 : decode cX7_wills 76 = .ok (.iconst 1, 1) := by decide +kernel
theorem dX7_wills_77 : decode cX7_wills 77 = .ok (.if_icmp .ne 13, 3) := by decide +kernel
theorem dX7_wills_80 : decode cX7_wills 80 = .ok (.iload_n 3, 1) := by decide +kernel
theorem dX7_wills_81 : decode cX7_wills 81 = .ok (.ifCond .le 9, 3) := by decide +kernel
theorem dX7_wills_84 : decode cX7_wills 84 = .ok (.iload 4, 2) := by decide +kernel
theorem dX7_wills_86 : decode cX7_wills 86 = .ok (.iload_n 3, 1) := by decide +kernel
theorem dX7_wills_87 : decode cX7_wills 87 = .ok (.iadd, 1) := by decide +kernel
theorem dX7_wills_88 : decode cX7_wills 88 = .ok (.istore 4, 2) := by decide +kernel
theorem dX7_wills_90 : decode cX7_wills 90 = .ok (.aload_n 0, 1) := by decide +kernel
theorem dX7_wills_91 : decode cX7_wills 91 = .ok (.getfield 29, 3) := by decide +kernel
theorem dX7_wills_94 : decode cX7_wills 94 = .ok (.iload_n 1, 1) := by decide +kernel
theorem dX7_wills_95 : decode cX7_wills 95 = .ok (.iaload, 1) := by decide +kernel
theorem dX7_wills_96 : decode cX7_wills 96 = .ok (.tableswitch 111 1 6 #[40, 62, 50, 72, 84, 50], 40) := by decide +kernel
theorem dX7_wills_136 : decode cX7_wills 136 = .ok (.iload 4, 2) := by decide +kernel
theorem dX7_wills_138 : decode cX7_wills 138 = .ok (.aload_n 0, 1) := by decide +kernel
theorem dX7_wills_139 : decode cX7_wills 139 = .ok (.getfield 32, 3) := by decide +kernel
theorem dX7_wills_142 : decode cX7_wills 142 = .ok (.iload_n 1, 1) := by decide +kernel
theorem dX7_wills_143 : decode cX7_wills 143 = .ok (.iaload, 1) := by decide +kernel
theorem dX7_wills_144 : decode cX7_wills 144 = .ok (.iadd, 1) := by decide +kernel
theorem dX7_wills_145 : decode cX7_wills 145 = .ok (.ireturn, 1) := by decide +kernel
theorem dX7_wills_146 : decode cX7_wills 146 = .ok (.iload 4, 2) := by decide +kernel
theorem dX7_wills_148 : decode cX7_wills 148 = .ok (.aload_n 0, 1) := by decide +kernel
theorem dX7_wills_149 : decode cX7_wills 149 = .ok (.getfield 32, 3) := by decide +kernel
theorem dX7_wills_152 : decode cX7_wills 152 = .ok (.iload_n 1, 1) := by decide +kernel
theorem dX7_wills_153 : decode cX7_wills 153 = .ok (.iaload, 1) := by decide +kernel
theorem dX7_wills_154 : decode cX7_wills 154 = .ok (.iadd, 1) := by decide +kernel
theorem dX7_wills_155 : decode cX7_wills 155 = .ok (.iconst 2, 1) := by decide +kernel
theorem dX7_wills_156 : decode cX7_wills 156 = .ok (.iadd, 1) := by decide +kernel
theorem dX7_wills_157 : decode cX7_wills 157 = .ok (.ireturn, 1) := by decide +kernel
theorem dX7_wills_158 : decode cX7_wills 158 = .ok (.iload 4, 2) := by decide +kernel
theorem dX7_wills_160 : decode cX7_wills 160 = .ok (.aload_n 0, 1) := by decide +kernel
theorem dX7_wills_161 : decode cX7_wills 161 = .ok (.getfield 32, 3) := by decide +kernel
theorem dX7_wills_164 : decode cX7_wills 164 = .ok (.iload_n 1, 1) := by decide +kernel
theorem dX7_wills_165 : decode cX7_wills 165 = .ok (.iaload, 1) := by decide +kernel
theorem dX7_wills_166 : decode cX7_wills 166 = .ok (.isub, 1) := by decide +kernel
theorem dX7_wills_167 : decode cX7_wills 167 = .ok (.ireturn, 1) := by decide +kernel
theorem dX7_wills_168 : decode cX7_wills 168 = .ok (.iload 4, 2) := by decide +kernel
theorem dX7_wills_170 : decode cX7_wills 170 = .ok (.aload_n 0, 1) := by decide +kernel
theorem dX7_wills_171 : decode cX7_wills 171 = .ok (.getfield 32, 3) := by decide +kernel
theorem dX7_wills_174 : decode cX7_wills 174 = .ok (.iload_n 1, 1) := by decide +kernel
theorem dX7_wills_175 : decode cX7_wills 175 = .ok (.iaload, 1) := by decide +kernel
theorem dX7_wills_176 : decode cX7_wills 176 = .ok (.isub, 1) := by decide +kernel
theorem dX7_wills_177 : decode cX7_wills 177 = .ok (.iload_n 2, 1) := by decide +kernel
theorem dX7_wills_178 : decode cX7_wills 178 = .ok (.isub, 1) := by decide +kernel
theorem dX7_wills_179 : decode cX7_wills 179 = .ok (.ireturn, 1) := by decide +kernel
theorem dX7_wills_180 : decode cX7_wills 180 = .ok (.aload_n 0, 1) := by decide +kernel
theorem dX7_wills_181 : decode cX7_wills 181 = .ok (.getfield 183, 3) := by decide +kernel
theorem dX7_wills_184 : decode cX7_wills 184 = .ok (.aload_n 0, 1) := by decide +kernel
theorem dX7_wills_185 : decode cX7_wills 185 = .ok (.getfield 32, 3) := by decide +kernel
theorem dX7_wills_188 : decode cX7_wills 188 = .ok (.iload_n 1, 1) := by decide +kernel
theorem dX7_wills_189 : decode cX7_wills 189 = .ok (.iaload, 1) := by decide +kernel
theorem dX7_wills_190 : decode cX7_wills 190 = .ok (.iconst 2, 1) := by decide +kernel
theorem dX7_wills_191 : decode cX7_wills 191 = .ok (.iadd, 1) := by decide +kernel
theorem dX7_wills_192 : decode cX7_wills 192 = .ok (.irem, 1) := by decide +kernel
theorem dX7_wills_193 : decode cX7_wills 193 = .ok (.ifCond .ne 11, 3) := by decide +kernel
theorem dX7_wills_196 : decode cX7_wills 196 = .ok (.iload 4, 2) := by decide +kernel
theorem dX7_wills_198 : decode cX7_wills 198 = .ok (.bipush 20, 2) := by decide +kernel
theorem dX7_wills_200 : decode cX7_wills 200 = .ok (.isub, 1) := by decide +kernel
theorem dX7_wills_201 : decode cX7_wills 201 = .ok (.goto 5, 3) := by decide +kernel
theorem dX7_wills_204 : decode cX7_wills 204 = .ok (.iload 4, 2) := by decide +kernel
theorem dX7_wills_206 : decode cX7_wills 206 = .ok (.ireturn, 1) := by decide +kernel
theorem dX7_wills_207 : decode cX7_wills 207 = .ok (.iload 4, 2) := by decide +kernel
theorem dX7_wills_209 : decode cX7_wills 209 = .ok (.ireturn, 1) := by decide +kernel
theorem dX7_stillComes_0 : decode cX7_stillComes 0 = .ok (.aload_n 0, 1) := by decide +kernel
theorem dX7_stillComes_1 : decode cX7_stillComes 1 = .ok (.iload_n 1, 1) := by decide +kernel
theorem dX7_stillComes_2 : decode cX7_stillComes 2 = .ok (.invokevirtual 196, 3) := by decide +kernel
theorem dX7_stillComes_5 : decode cX7_stillComes 5 = .ok (.istore_n 3, 1) := by decide +kernel
theorem dX7_stillComes_6 : decode cX7_stillComes 6 = .ok (.aload_n 0, 1) := by decide +kernel
theorem dX7_stillComes_7 : decode cX7_stillComes 7 = .ok (.getfield 41, 3) := by decide +kernel
theorem dX7_stillComes_10 : decode cX7_stillComes 10 = .ok (.iload_n 1, 1) := by decide +kernel
theorem dX7_stillComes_11 : decode cX7_stillComes 11 = .ok (.iaload, 1) := by decide +kernel
theorem dX7_stillComes_12 : decode cX7_stillComes 12 = .ok (.istore 4, 2) := by decide +kernel
theorem dX7_stillComes_14 : decode cX7_stillComes 14 = .ok (.iload_n 2, 1) := by decide +kernel
theorem dX7_stillComes_15 : decode cX7_stillComes 15 = .ok (.iload_n 1, 1) := by decide +kernel
theorem dX7_stillComes_16 : decode cX7_stillComes 16 = .ok (.ishr, 1) := by decide +kernel
theorem dX7_stillComes_17 : decode cX7_stillComes 17 = .ok (.iconst 1, 1) := by decide +kernel
theorem dX7_stillComes_18 : decode cX7_stillComes 18 = .ok (.iand, 1) := by decide +kernel
theorem dX7_stillComes_19 : decode cX7_stillComes 19 = .ok (.iconst 1, 1) := by decide +kernel
theorem dX7_stillComes_20 : decode cX7_stillComes 20 = .ok (.if_icmp .ne 6, 3) := by decide +kernel
theorem dX7_stillComes_23 : decode cX7_stillComes 23 = .ok (.iinc 3 4, 3) := by decide +kernel
theorem dX7_stillComes_26 : decode cX7_stillComes 26 = .ok (.iload 4, 2) := by decide +kernel
theorem dX7_stillComes_28 : decode cX7_stillComes 28 = .ok (.iconst (-1), 1) := by decide +kernel
theorem dX7_stillComes_29 : decode cX7_stillComes 29 = .ok (.if_icmp .eq 20, 3) := by decide +kernel
theorem dX7_stillComes_32 : decode cX7_stillComes 32 = .ok (.aload_n 0, 1) := by decide +kernel
theorem dX7_stillComes_33 : decode cX7_stillComes 33 = .ok (.getfield 199, 3) := by decide +kernel
theorem dX7_stillComes_36 : decode cX7_stillComes 36 = .ok (.iload 4, 2) := by decide +kernel
theorem dX7_stillComes_38 : decode cX7_stillComes 38 = .ok (.ishr, 1) := by decide +kernel
theorem dX7_stillComes_39 : decode cX7_stillComes 39 = .ok (.iconst 1, 1) := by decide +kernel
theorem dX7_stillComes_40 : decode cX7_stillComes 40 = .ok (.iand, 1) := by decide +kernel
theorem dX7_stillComes_41 : decode cX7_stillComes 41 = .ok (.iconst 1, 1) := by decide +kernel
theorem dX7_stillComes_42 : decode cX7_stillComes 42 = .ok (.if_icmp .ne 7, 3) := by decide +kernel
theorem dX7_stillComes_45 : decode cX7_stillComes 45 = .ok (.iconst 1, 1) := by decide +kernel
theorem dX7_stillComes_46 : decode cX7_stillComes 46 = .ok (.goto 4, 3) := by decide +kernel
theorem dX7_stillComes_49 : decode cX7_stillComes 49 = .ok (.iconst 0, 1) := by decide +kernel
theorem dX7_stillComes_50 : decode cX7_stillComes 50 = .ok (.istore 5, 2) := by decide +kernel
theorem dX7_stillComes_52 : decode cX7_stillComes 52 = .ok (.iload 5, 2) := by decide +kernel
theorem dX7_stillComes_54 : decode cX7_stillComes 54 = .ok (.ifCond .eq 27, 3) := by decide +kernel
theorem dX7_stillComes_57 : decode cX7_stillComes 57 = .ok (.iload_n 3, 1) := by decide +kernel
theorem dX7_stillComes_58 : decode cX7_stillComes 58 = .ok (.aload_n 0, 1) := by decide +kernel
theorem dX7_stillComes_59 : decode cX7_stillComes 59 = .ok (.aload_n 0, 1) := by decide +kernel
theorem dX7_stillComes_60 : decode cX7_stillComes 60 = .ok (.getfield 29, 3) := by decide +kernel
theorem dX7_stillComes_63 : decode cX7_stillComes 63 = .ok (.iload 4, 2) := by decide +kernel
theorem dX7_stillComes_65 : decode cX7_stillComes 65 = .ok (.iaload, 1) := by decide +kernel
theorem dX7_stillComes_66 : decode cX7_stillComes 66 = .ok (.iconst 3, 1) := by decide +kernel
theorem dX7_stillComes_67 : decode cX7_stillComes 67 = .ok (.invokevirtual 116, 3) := by decide +kernel
theorem dX7_stillComes_70 : decode cX7_stillComes 70 = .ok (.ifCond .eq 8, 3) := by decide +kernel
theorem dX7_stillComes_73 : decode cX7_stillComes 73 = .ok (.bipush 6, 2) := by decide +kernel
theorem dX7_stillComes_75 : decode cX7_stillComes 75 = .ok (.goto 4, 3) := by decide +kernel
theorem dX7_stillComes_78 : decode cX7_stillComes 78 = .ok (.iconst 3, 1) := by decide +kernel
theorem dX7_stillComes_79 : decode cX7_stillComes 79 = .ok (.iadd, 1) := by decide +kernel
theorem dX7_stillComes_80 : decode cX7_stillComes 80 = .ok (.istore_n 3, 1) := by decide +kernel
theorem dX7_stillComes_81 : decode cX7_stillComes 81 = .ok (.iload_n 3, 1) := by decide +kernel
theorem dX7_stillComes_82 : decode cX7_stillComes 82 = .ok (.ifCond .le 29, 3) := by decide +kernel
theorem dX7_stillComes_85 : decode cX7_stillComes 85 = .ok (.aload_n 0, 1) := by decide +kernel
theorem dX7_stillComes_86 : decode cX7_stillComes 86 = .ok (.getfield 29, 3) := by decide +kernel
theorem dX7_stillComes_89 : decode cX7_stillComes 89 = .ok (.iload_n 1, 1) := by decide +kernel
theorem dX7_stillComes_90 : decode cX7_stillComes 90 = .ok (.iaload, 1) := by decide +kernel
theorem dX7_stillComes_91 : decode cX7_stillComes 91 = .ok (.bipush 6, 2) := by decide +kernel
theorem dX7_stillComes_93 : decode cX7_stillComes 93 = .ok (.if_icmp .ne 14, 3) := by decide +kernel
theorem dX7_stillComes_96 : decode cX7_stillComes 96 = .ok (.iload 4, 2) := by decide +kernel
theorem dX7_stillComes_98 : decode cX7_stillComes 98 = .ok (.iconst (-1), 1) := by decide +kernel
theorem dX7_stillComes_99 : decode cX7_stillComes 99 = .ok (.if_icmp .eq 8, 3) := by decide +kernel
theorem dX7_stillComes_102 : decode cX7_stillComes 102 = .ok (.iload 5, 2) := by decide +kernel
theorem dX7_stillComes_104 : decode cX7_stillComes 104 = .ok (.ifCond .eq 7, 3) := by decide +kernel
theorem dX7_stillComes_107 : decode cX7_stillComes 107 = .ok (.iconst 1, 1) := by decide +kernel
theorem dX7_stillComes_108 : decode cX7_stillComes 108 = .ok (.goto 4, 3) := by decide +kernel
theorem dX7_stillComes_111 : decode cX7_stillComes 111 = .ok (.iconst 0, 1) := by decide +kernel
theorem dX7_stillComes_112 : decode cX7_stillComes 112 = .ok (.ireturn, 1) := by decide +kernel
theorem dX7_comes_0 : decode cX7_comes 0 = .ok (.aload_n 0, 1) := by decide +kernel
theorem dX7_comes_1 : decode cX7_comes 1 = .ok (.iconst 0, 1) := by decide +kernel
theorem dX7_comes_2 : decode cX7_comes 2 = .ok (.putfield 199, 3) := by decide +kernel
theorem dX7_comes_5 : decode cX7_comes 5 = .ok (.iconst 0, 1) := by decide +kernel
theorem dX7_comes_6 : decode cX7_comes 6 = .ok (.istore_n 2, 1) := by decide +kernel
theorem dX7_comes_7 : decode cX7_comes 7 = .ok (.iload_n 2, 1) := by decide +kernel
theorem dX7_comes_8 : decode cX7_comes 8 = .ok (.aload_n 0, 1) := by decide +kernel
theorem dX7_comes_9 : decode cX7_comes 9 = .ok (.getfield 102, 3) := by decide +kernel
theorem dX7_comes_12 : decode cX7_comes 12 = .ok (.if_icmp .ge 30, 3) := by decide +kernel
theorem dX7_comes_15 : decode cX7_comes 15 = .ok (.aload_n 0, 1) := by decide +kernel
theorem dX7_comes_16 : decode cX7_comes 16 = .ok (.getfield 53, 3) := by decide +kernel
theorem dX7_comes_19 : decode cX7_comes 19 = .ok (.iload_n 2, 1) := by decide +kernel
theorem dX7_comes_20 : decode cX7_comes 20 = .ok (.iaload, 1) := by decide +kernel
theorem dX7_comes_21 : decode cX7_comes 21 = .ok (.ifCond .ne 15, 3) := by decide +kernel
theorem dX7_comes_24 : decode cX7_comes 24 = .ok (.aload_n 0, 1) := by decide +kernel
theorem dX7_comes_25 : decode cX7_comes 25 = .ok (.dup, 1) := by decide +kernel
theorem dX7_comes_26 : decode cX7_comes 26 = .ok (.getfield 199, 3) := by decide +kernel
theorem dX7_comes_29 : decode cX7_comes 29 = .ok (.iconst 1, 1) := by decide +kernel
theorem dX7_comes_30 : decode cX7_comes 30 = .ok (.iload_n 2, 1) := by decide +kernel
theorem dX7_comes_31 : decode cX7_comes 31 = .ok (.ishl, 1) := by decide +kernel
theorem dX7_comes_32 : decode cX7_comes 32 = .ok (.iadd, 1) := by decide +kernel
theorem dX7_comes_33 : decode cX7_comes 33 = .ok (.putfield 199, 3) := by decide +kernel
theorem dX7_comes_36 : decode cX7_comes 36 = .ok (.iinc 2 1, 3) := by decide +kernel
theorem dX7_comes_39 : decode cX7_comes 39 = .ok (.goto (-32), 3) := by decide +kernel
theorem dX7_comes_42 : decode cX7_comes 42 = .ok (.iconst 1, 1) := by decide +kernel
theorem dX7_comes_43 : decode cX7_comes 43 = .ok (.istore_n 2, 1) := by decide +kernel
theorem dX7_comes_44 : decode cX7_comes 44 = .ok (.iload_n 2, 1) := by decide +kernel
theorem dX7_comes_45 : decode cX7_comes 45 = .ok (.ifCond .eq 61, 3) := by decide +kernel
theorem dX7_comes_48 : decode cX7_comes 48 = .ok (.iconst 0, 1) := by decide +kernel
theorem dX7_comes_49 : decode cX7_comes 49 = .ok (.istore_n 2, 1) := by decide +kernel
theorem dX7_comes_50 : decode cX7_comes 50 = .ok (.iconst 0, 1) := by decide +kernel
theorem dX7_comes_51 : decode cX7_comes 51 = .ok (.istore_n 3, 1) := by decide +kernel
theorem dX7_comes_52 : decode cX7_comes 52 = .ok (.iload_n 3, 1) := by decide +kernel
theorem dX7_comes_53 : decode cX7_comes 53 = .ok (.aload_n 0, 1) := by decide +kernel
theorem dX7_comes_54 : decode cX7_comes 54 = .ok (.getfield 102, 3) := by decide +kernel
theorem dX7_comes_57 : decode cX7_comes 57 = .ok (.if_icmp .ge 46, 3) := by decide +kernel
theorem dX7_comes_60 : decode cX7_comes 60 = .ok (.aload_n 0, 1) := by decide +kernel
theorem dX7_comes_61 : decode cX7_comes 61 = .ok (.getfield 199, 3) := by decide +kernel
theorem dX7_comes_64 : decode cX7_comes 64 = .ok (.iload_n 3, 1) := by decide +kernel
theorem dX7_comes_65 : decode cX7_comes 65 = .ok (.ishr, 1) := by decide +kernel
theorem dX7_comes_66 : decode cX7_comes 66 = .ok (.iconst 1, 1) := by decide +kernel
theorem dX7_comes_67 : decode cX7_comes 67 = .ok (.iand, 1) := by decide +kernel
theorem dX7_comes_68 : decode cX7_comes 68 = .ok (.ifCond .eq 29, 3) := by decide +kernel
theorem dX7_comes_71 : decode cX7_comes 71 = .ok (.aload_n 0, 1) := by decide +kernel
theorem dX7_comes_72 : decode cX7_comes 72 = .ok (.iload_n 3, 1) := by decide +kernel
theorem dX7_comes_73 : decode cX7_comes 73 = .ok (.iload_n 1, 1) := by decide +kernel
theorem dX7_comes_74 : decode cX7_comes 74 = .ok (.invokevirtual 202, 3) := by decide +kernel
theorem dX7_comes_77 : decode cX7_comes 77 = .ok (.ifCond .eq 6, 3) := by decide +kernel
theorem dX7_comes_80 : decode cX7_comes 80 = .ok (.goto 17, 3) := by decide +kernel
theorem dX7_comes_83 : decode cX7_comes 83 = .ok (.aload_n 0, 1) := by decide +kernel
theorem dX7_comes_84 : decode cX7_comes 84 = .ok (.dup, 1) := by decide +kernel
theorem dX7_comes_85 : decode cX7_comes 85 = .ok (.getfield 199, 3) := by decide +kernel
theorem dX7_comes_88 : decode cX7_comes 88 = .ok (.iconst 1, 1) := by decide +kernel
theorem dX7_comes_89 : decode cX7_comes 89 = .ok (.iload_n 3, 1) := by decide +kernel
theorem dX7_comes_90 : decode cX7_comes 90 = .ok (.ishl, 1) := by decide +kernel
theorem dX7_comes_91 : decode cX7_comes 91 = .ok (.isub, 1) := by decide +kernel
theorem dX7_comes_92 : decode cX7_comes 92 = .ok (.putfield 199, 3) := by decide +kernel
theorem dX7_comes_95 : decode cX7_comes 95 = .ok (.iconst 1, 1) := by decide +kernel
theorem dX7_comes_96 : decode cX7_comes 96 = .ok (.istore_n 2, 1) := by decide +kernel
theorem dX7_comes_97 : decode cX7_comes 97 = .ok (.iinc 3 1, 3) := by decide +kernel
theorem dX7_comes_100 : decode cX7_comes 100 = .ok (.goto (-48), 3) := by decide +kernel
theorem dX7_comes_103 : decode cX7_comes 103 = .ok (.goto (-59), 3) := by decide +kernel
theorem dX7_comes_106 : decode cX7_comes 106 = .ok (.aload_n 0, 1) := by decide +kernel
theorem dX7_comes_107 : decode cX7_comes 107 = .ok (.iconst 0, 1) := by decide +kernel
theorem dX7_comes_108 : decode cX7_comes 108 = .ok (.putfield 205, 3) := by decide +kernel
theorem dX7_comes_111 : decode cX7_comes 111 = .ok (.aload_n 0, 1) := by decide +kernel
theorem dX7_comes_112 : decode cX7_comes 112 = .ok (.iconst 0, 1) := by decide +kernel
theorem dX7_comes_113 : decode cX7_comes 113 = .ok (.putfield 208, 3) := by decide +kernel
theorem dX7_comes_116 : decode cX7_comes 116 = .ok (.aload_n 0, 1) := by decide +kernel
theorem dX7_comes_117 : decode cX7_comes 117 = .ok (.iconst 0, 1) := by decide +kernel
theorem dX7_comes_118 : decode cX7_comes 118 = .ok (.putfield 211, 3) := by decide +kernel
theorem dX7_comes_121 : decode cX7_comes 121 = .ok (.iconst 0, 1) := by decide +kernel
theorem dX7_comes_122 : decode cX7_comes 122 = .ok (.istore_n 3, 1) := by decide +kernel
theorem dX7_comes_123 : decode cX7_comes 123 = .ok (.iload_n 3, 1) := by decide +kernel
theorem dX7_comes_124 : decode cX7_comes 124 = .ok (.aload_n 0, 1) := by decide +kernel
theorem dX7_comes_125 : decode cX7_comes 125 = .ok (.getfield 102, 3) := by decide +kernel
theorem dX7_comes_128 : decode cX7_comes 128 = .ok (.if_icmp .ge 69, 3) := by decide +kernel
theorem dX7_comes_131 : decode cX7_comes 131 = .ok (.aload_n 0, 1) := by decide +kernel
theorem dX7_comes_132 : decode cX7_comes 132 = .ok (.getfield 199, 3) := by decide +kernel
theorem dX7_comes_135 : decode cX7_comes 135 = .ok (.iload_n 3, 1) := by decide +kernel
theorem dX7_comes_136 : decode cX7_comes 136 = .ok (.ishr, 1) := by decide +kernel
theorem dX7_comes_137 : decode cX7_comes 137 = .ok (.iconst 1, 1) := by decide +kernel
theorem dX7_comes_138 : decode cX7_comes 138 = .ok (.iand, 1) := by decide +kernel
theorem dX7_comes_139 : decode cX7_comes 139 = .ok (.ifCond .ne 6, 3) := by decide +kernel
theorem dX7_comes_142 : decode cX7_comes 142 = .ok (.goto 49, 3) := by decide +kernel
theorem dX7_comes_145 : decode cX7_comes 145 = .ok (.aload_n 0, 1) := by decide +kernel
theorem dX7_comes_146 : decode cX7_comes 146 = .ok (.dup, 1) := by decide +kernel
theorem dX7_comes_147 : decode cX7_comes 147 = .ok (.getfield 208, 3) := by decide +kernel
theorem dX7_comes_150 : decode cX7_comes 150 = .ok (.iconst 1, 1) := by decide +kernel
theorem dX7_comes_151 : decode cX7_comes 151 = .ok (.iadd, 1) := by decide +kernel
theorem dX7_comes_152 : decode cX7_comes 152 = .ok (.putfield 208, 3) := by decide +kernel
theorem dX7_comes_155 : decode cX7_comes 155 = .ok (.aload_n 0, 1) := by decide +kernel
theorem dX7_comes_156 : decode cX7_comes 156 = .ok (.getfield 208, 3) := by decide +kernel
theorem dX7_comes_159 : decode cX7_comes 159 = .ok (.aload_n 0, 1) := by decide +kernel
theorem dX7_comes_160 : decode cX7_comes 160 = .ok (.getfield 13, 3) := by decide +kernel
theorem dX7_comes_163 : decode cX7_comes 163 = .ok (.if_icmp .le 6, 3) := by decide +kernel
theorem dX7_comes_166 : decode cX7_comes 166 = .ok (.goto 25, 3) := by decide +kernel
theorem dX7_comes_169 : decode cX7_comes 169 = .ok (.aload_n 0, 1) := by decide +kernel
theorem dX7_comes_170 : decode cX7_comes 170 = .ok (.dup, 1) := by decide +kernel
theorem dX7_comes_171 : decode cX7_comes 171 = .ok (.getfield 205, 3) := by decide +kernel
theorem dX7_comes_174 : decode cX7_comes 174 = .ok (.iconst 1, 1) := by decide +kernel
theorem dX7_comes_175 : decode cX7_comes 175 = .ok (.iload_n 3, 1) := by decide +kernel
theorem dX7_comes_176 : decode cX7_comes 176 = .ok (.ishl, 1) := by decide +kernel
theorem dX7_comes_177 : decode cX7_comes 177 = .ok (.iadd, 1) := by decide +kernel
theorem dX7_comes_178 : decode cX7_comes 178 = .ok (.putfield 205, 3) := by decide +kernel
theorem dX7_comes_181 : decode cX7_comes 181 = .ok (.aload_n 0, 1) := by decide +kernel
theorem dX7_comes_182 : decode cX7_comes 182 = .ok (.dup, 1) := by decide +kernel
theorem dX7_comes_183 : decode cX7_comes 183 = .ok (.getfield 211, 3) := by decide +kernel
theorem dX7_comes_186 : decode cX7_comes 186 = .ok (.iconst 1, 1) := by decide +kernel
theorem dX7_comes_187 : decode cX7_comes 187 = .ok (.iadd, 1) := by decide +kernel
theorem dX7_comes_188 : decode cX7_comes 188 = .ok (.putfield 211, 3) := by decide +kernel
theorem dX7_comes_191 : decode cX7_comes 191 = .ok (.iinc 3 1, 3) := by decide +kernel
theorem dX7_comes_194 : decode cX7_comes 194 = .ok (.goto (-71), 3) := by decide +kernel
theorem dX7_comes_197 : decode cX7_comes 197 = .ok (.return_, 1) := by decide +kernel
theorem dX7_passes_0 : decode cX7_passes 0 = .ok (.aload_n 0, 1) := by decide +kernel
theorem dX7_passes_1 : decode cX7_passes 1 = .ok (.iconst 0, 1) := by decide +kernel
theorem dX7_passes_2 : decode cX7_passes 2 = .ok (.invokevirtual 214, 3) := by decide +kernel
theorem dX7_passes_5 : decode cX7_passes 5 = .ok (.iconst 0, 1) := by decide +kernel
theorem dX7_passes_6 : decode cX7_passes 6 = .ok (.istore_n 1, 1) := by decide +kernel
theorem dX7_passes_7 : decode cX7_passes 7 = .ok (.iload_n 1, 1) := by decide +kernel
theorem dX7_passes_8 : decode cX7_passes 8 = .ok (.aload_n 0, 1) := by decide +kernel
theorem dX7_passes_9 : decode cX7_passes 9 = .ok (.getfield 102, 3) := by decide +kernel
theorem dX7_passes_12 : decode cX7_passes 12 = .ok (.if_icmp .ge 164, 3) := by decide +kernel
theorem dX7_passes_15 : decode cX7_passes 15 = .ok (.aload_n 0, 1) := by decide +kernel
theorem dX7_passes_16 : decode cX7_passes 16 = .ok (.getfield 205, 3) := by decide +kernel
theorem dX7_passes_19 : decode cX7_passes 19 = .ok (.iload_n 1, 1) := by decide +kernel
theorem dX7_passes_20 : decode cX7_passes 20 = .ok (.ishr, 1) := by decide +kernel
theorem dX7_passes_21 : decode cX7_passes 21 = .ok (.iconst 1, 1) := by decide +kernel
theorem dX7_passes_22 : decode cX7_passes 22 = .ok (.iand, 1) := by decide +kernel
theorem dX7_passes_23 : decode cX7_passes 23 = .ok (.iconst 1, 1) := by decide +kernel
theorem dX7_passes_24 : decode cX7_passes 24 = .ok (.if_icmp .ne 71, 3) := by decide +kernel
theorem dX7_passes_27 : decode cX7_passes 27 = .ok (.aload_n 0, 1) := by decide +kernel
theorem dX7_passes_28 : decode cX7_passes 28 = .ok (.getfield 50, 3) := by decide +kernel
theorem dX7_passes_31 : decode cX7_passes 31 = .ok (.iload_n 1, 1) := by decide +kernel
theorem dX7_passes_32 : decode cX7_passes 32 = .ok (.dup2, 1) := by decide +kernel
theorem dX7_passes_33 : decode cX7_passes 33 = .ok (.iaload, 1) := by decide +kernel
theorem dX7_passes_34 : decode cX7_passes 34 = .ok (.iconst 1, 1) := by decide +kernel
theorem dX7_passes_35 : decode cX7_passes 35 = .ok (.iadd, 1) := by decide +kernel
theorem dX7_passes_36 : decode cX7_passes 36 = .ok (.iastore, 1) := by decide +kernel
theorem dX7_passes_37 : decode cX7_passes 37 = .ok (.aload_n 0, 1) := by decide +kernel
theorem dX7_passes_38 : decode cX7_passes 38 = .ok (.getfield 44, 3) := by decide +kernel
theorem dX7_passes_41 : decode cX7_passes 41 = .ok (.iload_n 1, 1) := by decide +kernel
theorem dX7_passes_42 : decode cX7_passes 42 = .ok (.dup2, 1) := by decide +kernel
theorem dX7_passes_43 : decode cX7_passes 43 = .ok (.iaload, 1) := by decide +kernel
theorem dX7_passes_44 : decode cX7_passes 44 = .ok (.aload_n 0, 1) := by decide +kernel
theorem dX7_passes_45 : decode cX7_passes 45 = .ok (.getfield 44, 3) := by decide +kernel
theorem dX7_passes_48 : decode cX7_passes 48 = .ok (.iload_n 1, 1) := by decide +kernel
theorem dX7_passes_49 : decode cX7_passes 49 = .ok (.iaload, 1) := by decide +kernel
theorem dX7_passes_50 : decode cX7_passes 50 = .ok (.ifCond .le 7, 3) := by decide +kernel
theorem dX7_passes_53 : decode cX7_passes 53 = .ok (.iconst 1, 1) := by decide +kernel
theorem dX7_passes_54 : decode cX7_passes 54 = .ok (.goto 4, 3) := by decide +kernel
theorem dX7_passes_57 : decode cX7_passes 57 = .ok (.iconst 0, 1) := by decide +kernel
theorem dX7_passes_58 : decode cX7_passes 58 = .ok (.isub, 1) := by decide +kernel
theorem dX7_passes_59 : decode cX7_passes 59 = .ok (.iastore, 1) := by decide +kernel
theorem dX7_passes_60 : decode cX7_passes 60 = .ok (.aload_n 0, 1) := by decide +kernel
theorem dX7_passes_61 : decode cX7_passes 61 = .ok (.getfield 35, 3) := by decide +kernel
theorem dX7_passes_64 : decode cX7_passes 64 = .ok (.iload_n 1, 1) := by decide +kernel
theorem dX7_passes_65 : decode cX7_passes 65 = .ok (.dup2, 1) := by decide +kernel
theorem dX7_passes_66 : decode cX7_passes 66 = .ok (.iaload, 1) := by decide +kernel
theorem dX7_passes_67 : decode cX7_passes 67 = .ok (.aload_n 0, 1) := by decide +kernel
theorem dX7_passes_68 : decode cX7_passes 68 = .ok (.getfield 35, 3) := by decide +kernel
theorem dX7_passes_71 : decode cX7_passes 71 = .ok (.iload_n 1, 1) := by decide +kernel
theorem dX7_passes_72 : decode cX7_passes 72 = .ok (.iaload, 1) := by decide +kernel
theorem dX7_passes_73 : decode cX7_passes 73 = .ok (.bipush 20, 2) := by decide +kernel
theorem dX7_passes_75 : decode cX7_passes 75 = .ok (.if_icmp .ge 7, 3) := by decide +kernel
theorem dX7_passes_78 : decode cX7_passes 78 = .ok (.iconst 1, 1) := by decide +kernel
theorem dX7_passes_79 : decode cX7_passes 79 = .ok (.goto 4, 3) := by decide +kernel
theorem dX7_passes_82 : decode cX7_passes 82 = .ok (.iconst 0, 1) := by decide +kernel
theorem dX7_passes_83 : decode cX7_passes 83 = .ok (.iadd, 1) := by decide +kernel
theorem dX7_passes_84 : decode cX7_passes 84 = .ok (.iastore, 1) := by decide +kernel
theorem dX7_passes_85 : decode cX7_passes 85 = .ok (.aload_n 0, 1) := by decide +kernel
theorem dX7_passes_86 : decode cX7_passes 86 = .ok (.getfield 47, 3) := by decide +kernel
theorem dX7_passes_89 : decode cX7_passes 89 = .ok (.iload_n 1, 1) := by decide +kernel
theorem dX7_passes_90 : decode cX7_passes 90 = .ok (.iconst 0, 1) := by decide +kernel
theorem dX7_passes_91 : decode cX7_passes 91 = .ok (.iastore, 1) := by decide +kernel
theorem dX7_passes_92 : decode cX7_passes 92 = .ok (.goto 78, 3) := by decide +kernel
theorem dX7_passes_95 : decode cX7_passes 95 = .ok (.aload_n 0, 1) := by decide +kernel
theorem dX7_passes_96 : decode cX7_passes 96 = .ok (.getfield 53, 3) := by decide +kernel
theorem dX7_passes_99 : decode cX7_passes 99 = .ok (.iload_n 1, 1) := by decide +kernel
theorem dX7_passes_100 : decode cX7_passes 100 = .ok (.iaload, 1) := by decide +kernel
theorem dX7_passes_101 : decode cX7_passes 101 = .ok (.ifCond .ne 69, 3) := by decide +kernel
theorem dX7_passes_104 : decode cX7_passes 104 = .ok (.aload_n 0, 1) := by decide +kernel
theorem dX7_passes_105 : decode cX7_passes 105 = .ok (.getfield 44, 3) := by decide +kernel
theorem dX7_passes_108 : decode cX7_passes 108 = .ok (.iload_n 1, 1) := by decide +kernel
theorem dX7_passes_109 : decode cX7_passes 109 = .ok (.dup2, 1) := by decide +kernel
theorem dX7_passes_110 : decode cX7_passes 110 = .ok (.iaload, 1) := by decide +kernel
theorem dX7_passes_111 : decode cX7_passes 111 = .ok (.aload_n 0, 1) := by decide +kernel
theorem dX7_passes_112 : decode cX7_passes 112 = .ok (.getfield 44, 3) := by decide +kernel
theorem dX7_passes_115 : decode cX7_passes 115 = .ok (.iload_n 1, 1) := by decide +kernel
theorem dX7_passes_116 : decode cX7_passes 116 = .ok (.iaload, 1) := by decide +kernel
theorem dX7_passes_117 : decode cX7_passes 117 = .ok (.bipush 9, 2) := by decide +kernel
theorem dX7_passes_119 : decode cX7_passes 119 = .ok (.if_icmp .ge 7, 3) := by decide +kernel
theorem dX7_passes_122 : decode cX7_passes 122 = .ok (.iconst 1, 1) := by decide +kernel
theorem dX7_passes_123 : decode cX7_passes 123 = .ok (.goto 4, 3) := by decide +kernel
theorem dX7_passes_126 : decode cX7_passes 126 = .ok (.iconst 0, 1) := by decide +kernel
theorem dX7_passes_127 : decode cX7_passes 127 = .ok (.iadd, 1) := by decide +kernel
theorem dX7_passes_128 : decode cX7_passes 128 = .ok (.iastore, 1) := by decide +kernel
theorem dX7_passes_129 : decode cX7_passes 129 = .ok (.aload_n 0, 1) := by decide +kernel
theorem dX7_passes_130 : decode cX7_passes 130 = .ok (.getfield 47, 3) := by decide +kernel
theorem dX7_passes_133 : decode cX7_passes 133 = .ok (.iload_n 1, 1) := by decide +kernel
theorem dX7_passes_134 : decode cX7_passes 134 = .ok (.dup2, 1) := by decide +kernel
theorem dX7_passes_135 : decode cX7_passes 135 = .ok (.iaload, 1) := by decide +kernel
theorem dX7_passes_136 : decode cX7_passes 136 = .ok (.iconst 1, 1) := by decide +kernel
theorem dX7_passes_137 : decode cX7_passes 137 = .ok (.iadd, 1) := by decide +kernel
theorem dX7_passes_138 : decode cX7_passes 138 = .ok (.iastore, 1) := by decide +kernel
theorem dX7_passes_139 : decode cX7_passes 139 = .ok (.aload_n 0, 1) := by decide +kernel
theorem dX7_passes_140 : decode cX7_passes 140 = .ok (.getfield 47, 3) := by decide +kernel
theorem dX7_passes_143 : decode cX7_passes 143 = .ok (.iload_n 1, 1) := by decide +kernel
theorem dX7_passes_144 : decode cX7_passes 144 = .ok (.iaload, 1) := by decide +kernel
theorem dX7_passes_145 : decode cX7_passes 145 = .ok (.aload_n 0, 1) := by decide +kernel
theorem dX7_passes_146 : decode cX7_passes 146 = .ok (.getfield 38, 3) := by decide +kernel
theorem dX7_passes_149 : decode cX7_passes 149 = .ok (.iload_n 1, 1) := by decide +kernel
theorem dX7_passes_150 : decode cX7_passes 150 = .ok (.iaload, 1) := by decide +kernel
theorem dX7_passes_151 : decode cX7_passes 151 = .ok (.iconst 1, 1) := by decide +kernel
theorem dX7_passes_152 : decode cX7_passes 152 = .ok (.if_icmp .ne 7, 3) := by decide +kernel
theorem dX7_passes_155 : decode cX7_passes 155 = .ok (.iconst 3, 1) := by decide +kernel
theorem dX7_passes_156 : decode cX7_passes 156 = .ok (.goto 4, 3) := by decide +kernel
theorem dX7_passes_159 : decode cX7_passes 159 = .ok (.iconst 2, 1) := by decide +kernel
theorem dX7_passes_160 : decode cX7_passes 160 = .ok (.if_icmp .lt 10, 3) := by decide +kernel
theorem dX7_passes_163 : decode cX7_passes 163 = .ok (.aload_n 0, 1) := by decide +kernel
theorem dX7_passes_164 : decode cX7_passes 164 = .ok (.getfield 53, 3) := by decide +kernel
theorem dX7_passes_167 : decode cX7_passes 167 = .ok (.iload_n 1, 1) := by decide +kernel
theorem dX7_passes_168 : decode cX7_passes 168 = .ok (.iconst 1, 1) := by decide +kernel
theorem dX7_passes_169 : decode cX7_passes 169 = .ok (.iastore, 1) := by decide +kernel
theorem dX7_passes_170 : decode cX7_passes 170 = .ok (.iinc 1 1, 3) := by decide +kernel
theorem dX7_passes_173 : decode cX7_passes 173 = .ok (.goto (-166), 3) := by decide +kernel
theorem dX7_passes_176 : decode cX7_passes 176 = .ok (.aload_n 0, 1) := by decide +kernel
theorem dX7_passes_177 : decode cX7_passes 177 = .ok (.dup, 1) := by decide +kernel
theorem dX7_passes_178 : decode cX7_passes 178 = .ok (.getfield 183, 3) := by decide +kernel
theorem dX7_passes_181 : decode cX7_passes 181 = .ok (.iconst 1, 1) := by decide +kernel
theorem dX7_passes_182 : decode cX7_passes 182 = .ok (.iadd, 1) := by decide +kernel
theorem dX7_passes_183 : decode cX7_passes 183 = .ok (.putfield 183, 3) := by decide +kernel
theorem dX7_passes_186 : decode cX7_passes 186 = .ok (.return_, 1) := by decide +kernel
theorem dX7_will_0 : decode cX7_will 0 = .ok (.aload_n 0, 1) := by decide +kernel
theorem dX7_will_1 : decode cX7_will 1 = .ok (.iload_n 1, 1) := by decide +kernel
theorem dX7_will_2 : decode cX7_will 2 = .ok (.invokevirtual 113, 3) := by decide +kernel
theorem dX7_will_5 : decode cX7_will 5 = .ok (.ifCond .eq 11, 3) := by decide +kernel
theorem dX7_will_8 : decode cX7_will 8 = .ok (.aload_n 0, 1) := by decide +kernel
theorem dX7_will_9 : decode cX7_will 9 = .ok (.iload_n 1, 1) := by decide +kernel
theorem dX7_will_10 : decode cX7_will 10 = .ok (.invokevirtual 196, 3) := by decide +kernel
theorem dX7_will_13 : decode cX7_will 13 = .ok (.goto 12, 3) := by decide +kernel
theorem dX7_will_16 : decode cX7_will 16 = .ok (.aload_n 0, 1) := by decide +kernel
theorem dX7_will_17 : decode cX7_will 17 = .ok (.iconst (-1), 1) := by decide +kernel
theorem dX7_will_18 : decode cX7_will 18 = .ok (.invokevirtual 109, 3) := by decide +kernel
theorem dX7_will_21 : decode cX7_will 21 = .ok (.sipush 1000, 3) := by decide +kernel
theorem dX7_will_24 : decode cX7_will 24 = .ok (.isub, 1) := by decide +kernel
theorem dX7_will_25 : decode cX7_will 25 = .ok (.ireturn, 1) := by decide +kernel
theorem dX7_tonight_0 : decode cX7_tonight 0 = .ok (.iload_n 1, 1) := by decide +kernel
theorem dX7_tonight_1 : decode cX7_tonight 1 = .ok (.ifCond .lt 8, 3) := by decide +kernel
theorem dX7_tonight_4 : decode cX7_tonight 4 = .ok (.iload_n 1, 1) := by decide +kernel
theorem dX7_tonight_5 : decode cX7_tonight 5 = .ok (.iconst 2, 1) := by decide +kernel
theorem dX7_tonight_6 : decode cX7_tonight 6 = .ok (.if_icmp .le 10, 3) := by decide +kernel
theorem dX7_tonight_9 : decode cX7_tonight 9 = .ok (.aload_n 0, 1) := by decide +kernel
theorem dX7_tonight_10 : decode cX7_tonight 10 = .ok (.bipush (-5), 2) := by decide +kernel
theorem dX7_tonight_12 : decode cX7_tonight 12 = .ok (.invokevirtual 109, 3) := by decide +kernel
theorem dX7_tonight_15 : decode cX7_tonight 15 = .ok (.ireturn, 1) := by decide +kernel
theorem dX7_tonight_16 : decode cX7_tonight 16 = .ok (.aload_n 0, 1) := by decide +kernel
theorem dX7_tonight_17 : decode cX7_tonight 17 = .ok (.iconst 0, 1) := by decide +kernel
theorem dX7_tonight_18 : decode cX7_tonight 18 = .ok (.invokevirtual 214, 3) := by decide +kernel
theorem dX7_tonight_21 : decode cX7_tonight 21 = .ok (.iload_n 1, 1) := by decide +kernel
theorem dX7_tonight_22 : decode cX7_tonight 22 = .ok (.ifCond .ne 10, 3) := by decide +kernel
theorem dX7_tonight_25 : decode cX7_tonight 25 = .ok (.aload_n 0, 1) := by decide +kernel
theorem dX7_tonight_26 : decode cX7_tonight 26 = .ok (.getfield 199, 3) := by decide +kernel
theorem dX7_tonight_29 : decode cX7_tonight 29 = .ok (.goto 24, 3) := by decide +kernel
theorem dX7_tonight_32 : decode cX7_tonight 32 = .ok (.iload_n 1, 1) := by decide +kernel
theorem dX7_tonight_33 : decode cX7_tonight 33 = .ok (.iconst 1, 1) := by decide +kernel
theorem dX7_tonight_34 : decode cX7_tonight 34 = .ok (.if_icmp .ne 10, 3) := by decide +kernel
theorem dX7_tonight_37 : decode cX7_tonight 37 = .ok (.aload_n 0, 1) := by decide +kernel
theorem dX7_tonight_38 : decode cX7_tonight 38 = .ok (.getfield 205, 3) := by decide +kernel
theorem dX7_tonight_41 : decode cX7_tonight 41 = .ok (.goto 12, 3) := by decide +kernel
theorem dX7_tonight_44 : decode cX7_tonight 44 = .ok (.aload_n 0, 1) := by decide +kernel
theorem dX7_tonight_45 : decode cX7_tonight 45 = .ok (.getfield 199, 3) := by decide +kernel
theorem dX7_tonight_48 : decode cX7_tonight 48 = .ok (.aload_n 0, 1) := by decide +kernel
theorem dX7_tonight_49 : decode cX7_tonight 49 = .ok (.getfield 205, 3) := by decide +kernel
theorem dX7_tonight_52 : decode cX7_tonight 52 = .ok (.isub, 1) := by decide +kernel
theorem dX7_tonight_53 : decode cX7_tonight 53 = .ok (.ireturn, 1) := by decide +kernel
theorem dX7_here_0 : decode cX7_here 0 = .ok (.iconst 0, 1) := by decide +kernel
theorem dX7_here_1 : decode cX7_here 1 = .ok (.istore_n 1, 1) := by decide +kernel
theorem dX7_here_2 : decode cX7_here 2 = .ok (.iconst 0, 1) := by decide +kernel
theorem dX7_here_3 : decode cX7_here 3 = .ok (.istore_n 2, 1) := by decide +kernel
theorem dX7_here_4 : decode cX7_here 4 = .ok (.iload_n 2, 1) := by decide +kernel
theorem dX7_here_5 : decode cX7_here 5 = .ok (.aload_n 0, 1) := by decide +kernel
theorem dX7_here_6 : decode cX7_here 6 = .ok (.getfield 102, 3) := by decide +kernel
theorem dX7_here_9 : decode cX7_here 9 = .ok (.if_icmp .ge 20, 3) := by decide +kernel
theorem dX7_here_12 : decode cX7_here 12 = .ok (.iload_n 1, 1) := by decide +kernel
theorem dX7_here_13 : decode cX7_here 13 = .ok (.iconst 1, 1) := by decide +kernel
theorem dX7_here_14 : decode cX7_here 14 = .ok (.aload_n 0, 1) := by decide +kernel
theorem dX7_here_15 : decode cX7_here 15 = .ok (.getfield 53, 3) := by decide +kernel
theorem dX7_here_18 : decode cX7_here 18 = .ok (.iload_n 2, 1) := by decide +kernel
theorem dX7_here_19 : decode cX7_here 19 = .ok (.iaload, 1) := by decide +kernel
theorem dX7_here_20 : decode cX7_here 20 = .ok (.isub, 1) := by decide +kernel
theorem dX7_here_21 : decode cX7_here 21 = .ok (.iadd, 1) := by decide +kernel
theorem dX7_here_22 : decode cX7_here 22 = .ok (.istore_n 1, 1) := by decide +kernel
theorem dX7_here_23 : decode cX7_here 23 = .ok (.iinc 2 1, 3) := by decide +kernel
theorem dX7_here_26 : decode cX7_here 26 = .ok (.goto (-22), 3) := by decide +kernel
theorem dX7_here_29 : decode cX7_here 29 = .ok (.iload_n 1, 1) := by decide +kernel
theorem dX7_here_30 : decode cX7_here 30 = .ok (.ireturn, 1) := by decide +kernel
theorem dX7_runs_0 : decode cX7_runs 0 = .ok (.iconst 0, 1) := by decide +kernel
theorem dX7_runs_1 : decode cX7_runs 1 = .ok (.istore_n 2, 1) := by decide +kernel
theorem dX7_runs_2 : decode cX7_runs 2 = .ok (.aload_n 0, 1) := by decide +kernel
theorem dX7_runs_3 : decode cX7_runs 3 = .ok (.aload_n 0, 1) := by decide +kernel
theorem dX7_runs_4 : decode cX7_runs 4 = .ok (.getfield 93, 3) := by decide +kernel
theorem dX7_runs_7 : decode cX7_runs 7 = .ok (.iconst 0, 1) := by decide +kernel
theorem dX7_runs_8 : decode cX7_runs 8 = .ok (.invokevirtual 189, 3) := by decide +kernel
theorem dX7_runs_11 : decode cX7_runs 11 = .ok (.aload_n 0, 1) := by decide +kernel
theorem dX7_runs_12 : decode cX7_runs 12 = .ok (.iconst 0, 1) := by decide +kernel
theorem dX7_runs_13 : decode cX7_runs 13 = .ok (.putfield 218, 3) := by decide +kernel
theorem dX7_runs_16 : decode cX7_runs 16 = .ok (.aload_n 0, 1) := by decide +kernel
theorem dX7_runs_17 : decode cX7_runs 17 = .ok (.iconst 0, 1) := by decide +kernel
theorem dX7_runs_18 : decode cX7_runs 18 = .ok (.putfield 221, 3) := by decide +kernel
theorem dX7_runs_21 : decode cX7_runs 21 = .ok (.aload_n 0, 1) := by decide +kernel
theorem dX7_runs_22 : decode cX7_runs 22 = .ok (.iconst (-1), 1) := by decide +kernel
theorem dX7_runs_23 : decode cX7_runs 23 = .ok (.putfield 224, 3) := by decide +kernel
theorem dX7_runs_26 : decode cX7_runs 26 = .ok (.aload_n 0, 1) := by decide +kernel
theorem dX7_runs_27 : decode cX7_runs 27 = .ok (.iconst (-1), 1) := by decide +kernel
theorem dX7_runs_28 : decode cX7_runs 28 = .ok (.putfield 227, 3) := by decide +kernel
theorem dX7_runs_31 : decode cX7_runs 31 = .ok (.iconst 0, 1) := by decide +kernel
theorem dX7_runs_32 : decode cX7_runs 32 = .ok (.istore_n 3, 1) := by decide +kernel
theorem dX7_runs_33 : decode cX7_runs 33 = .ok (.iload_n 3, 1) := by decide +kernel
theorem dX7_runs_34 : decode cX7_runs 34 = .ok (.iload_n 1, 1) := by decide +kernel
theorem dX7_runs_35 : decode cX7_runs 35 = .ok (.if_icmp .ge 94, 3) := by decide +kernel
theorem dX7_runs_38 : decode cX7_runs 38 = .ok (.aload_n 0, 1) := by decide +kernel
theorem dX7_runs_39 : decode cX7_runs 39 = .ok (.invokevirtual 230, 3) := by decide +kernel
theorem dX7_runs_42 : decode cX7_runs 42 = .ok (.aload_n 0, 1) := by decide +kernel
theorem dX7_runs_43 : decode cX7_runs 43 = .ok (.dup, 1) := by decide +kernel
theorem dX7_runs_44 : decode cX7_runs 44 = .ok (.getfield 218, 3) := by decide +kernel
theorem dX7_runs_47 : decode cX7_runs 47 = .ok (.aload_n 0, 1) := by decide +kernel
theorem dX7_runs_48 : decode cX7_runs 48 = .ok (.getfield 211, 3) := by decide +kernel
theorem dX7_runs_51 : decode cX7_runs 51 = .ok (.iadd, 1) := by decide +kernel
theorem dX7_runs_52 : decode cX7_runs 52 = .ok (.putfield 218, 3) := by decide +kernel
theorem dX7_runs_55 : decode cX7_runs 55 = .ok (.aload_n 0, 1) := by decide +kernel
theorem dX7_runs_56 : decode cX7_runs 56 = .ok (.dup, 1) := by decide +kernel
theorem dX7_runs_57 : decode cX7_runs 57 = .ok (.getfield 221, 3) := by decide +kernel
theorem dX7_runs_60 : decode cX7_runs 60 = .ok (.aload_n 0, 1) := by decide +kernel
theorem dX7_runs_61 : decode cX7_runs 61 = .ok (.getfield 208, 3) := by decide +kernel
theorem dX7_runs_64 : decode cX7_runs 64 = .ok (.aload_n 0, 1) := by decide +kernel
theorem dX7_runs_65 : decode cX7_runs 65 = .ok (.getfield 211, 3) := by decide +kernel
theorem dX7_runs_68 : decode cX7_runs 68 = .ok (.isub, 1) := by decide +kernel
theorem dX7_runs_69 : decode cX7_runs 69 = .ok (.iadd, 1) := by decide +kernel
theorem dX7_runs_70 : decode cX7_runs 70 = .ok (.putfield 221, 3) := by decide +kernel
theorem dX7_runs_73 : decode cX7_runs 73 = .ok (.aload_n 0, 1) := by decide +kernel
theorem dX7_runs_74 : decode cX7_runs 74 = .ok (.getfield 224, 3) := by decide +kernel
theorem dX7_runs_77 : decode cX7_runs 77 = .ok (.iconst (-1), 1) := by decide +kernel
theorem dX7_runs_78 : decode cX7_runs 78 = .ok (.if_icmp .eq 11, 3) := by decide +kernel
theorem dX7_runs_81 : decode cX7_runs 81 = .ok (.aload_n 0, 1) := by decide +kernel
theorem dX7_runs_82 : decode cX7_runs 82 = .ok (.getfield 211, 3) := by decide +kernel
theorem dX7_runs_85 : decode cX7_runs 85 = .ok (.iload_n 2, 1) := by decide +kernel
theorem dX7_runs_86 : decode cX7_runs 86 = .ok (.if_icmp .ge 13, 3) := by decide +kernel
theorem dX7_runs_89 : decode cX7_runs 89 = .ok (.aload_n 0, 1) := by decide +kernel
theorem dX7_runs_90 : decode cX7_runs 90 = .ok (.iload_n 3, 1) := by decide +kernel
theorem dX7_runs_91 : decode cX7_runs 91 = .ok (.putfield 224, 3) := by decide +kernel
theorem dX7_runs_94 : decode cX7_runs 94 = .ok (.aload_n 0, 1) := by decide +kernel
theorem dX7_runs_95 : decode cX7_runs 95 = .ok (.getfield 211, 3) := by decide +kernel
theorem dX7_runs_98 : decode cX7_runs 98 = .ok (.istore_n 2, 1) := by decide +kernel
theorem dX7_runs_99 : decode cX7_runs 99 = .ok (.aload_n 0, 1) := by decide +kernel
theorem dX7_runs_100 : decode cX7_runs 100 = .ok (.getfield 227, 3) := by decide +kernel
theorem dX7_runs_103 : decode cX7_runs 103 = .ok (.iconst (-1), 1) := by decide +kernel
theorem dX7_runs_104 : decode cX7_runs 104 = .ok (.if_icmp .ne 19, 3) := by decide +kernel
theorem dX7_runs_107 : decode cX7_runs 107 = .ok (.aload_n 0, 1) := by decide +kernel
theorem dX7_runs_108 : decode cX7_runs 108 = .ok (.getfield 211, 3) := by decide +kernel
theorem dX7_runs_111 : decode cX7_runs 111 = .ok (.aload_n 0, 1) := by decide +kernel
theorem dX7_runs_112 : decode cX7_runs 112 = .ok (.getfield 16, 3) := by decide +kernel
theorem dX7_runs_115 : decode cX7_runs 115 = .ok (.if_icmp .ge 8, 3) := by decide +kernel
theorem dX7_runs_118 : decode cX7_runs 118 = .ok (.aload_n 0, 1) := by decide +kernel
theorem dX7_runs_119 : decode cX7_runs 119 = .ok (.iload_n 3, 1) := by decide +kernel
theorem dX7_runs_120 : decode cX7_runs 120 = .ok (.putfield 227, 3) := by decide +kernel
theorem dX7_runs_123 : decode cX7_runs 123 = .ok (.iinc 3 1, 3) := by decide +kernel
theorem dX7_runs_126 : decode cX7_runs 126 = .ok (.goto (-93), 3) := by decide +kernel
theorem dX7_runs_129 : decode cX7_runs 129 = .ok (.aload_n 0, 1) := by decide +kernel
theorem dX7_runs_130 : decode cX7_runs 130 = .ok (.aload_n 0, 1) := by decide +kernel
theorem dX7_runs_131 : decode cX7_runs 131 = .ok (.invokevirtual 233, 3) := by decide +kernel
theorem dX7_runs_134 : decode cX7_runs 134 = .ok (.putfield 236, 3) := by decide +kernel
theorem dX7_runs_137 : decode cX7_runs 137 = .ok (.aload_n 0, 1) := by decide +kernel
theorem dX7_runs_138 : decode cX7_runs 138 = .ok (.iconst 0, 1) := by decide +kernel
theorem dX7_runs_139 : decode cX7_runs 139 = .ok (.putfield 239, 3) := by decide +kernel
theorem dX7_runs_142 : decode cX7_runs 142 = .ok (.iconst 0, 1) := by decide +kernel
theorem dX7_runs_143 : decode cX7_runs 143 = .ok (.istore_n 3, 1) := by decide +kernel
theorem dX7_runs_144 : decode cX7_runs 144 = .ok (.iload_n 3, 1) := by decide +kernel
theorem dX7_runs_145 : decode cX7_runs 145 = .ok (.aload_n 0, 1) := by decide +kernel
theorem dX7_runs_146 : decode cX7_runs 146 = .ok (.getfield 102, 3) := by decide +kernel
theorem dX7_runs_149 : decode cX7_runs 149 = .ok (.if_icmp .ge 31, 3) := by decide +kernel
theorem dX7_runs_152 : decode cX7_runs 152 = .ok (.aload_n 0, 1) := by decide +kernel
theorem dX7_runs_153 : decode cX7_runs 153 = .ok (.getfield 53, 3) := by decide +kernel
theorem dX7_runs_156 : decode cX7_runs 156 = .ok (.iload_n 3, 1) := by decide +kernel
theorem dX7_runs_157 : decode cX7_runs 157 = .ok (.iaload, 1) := by decide +kernel
theorem dX7_runs_158 : decode cX7_runs 158 = .ok (.iconst 1, 1) := by decide +kernel
theorem dX7_runs_159 : decode cX7_runs 159 = .ok (.if_icmp .ne 15, 3) := by decide +kernel
theorem dX7_runs_162 : decode cX7_runs 162 = .ok (.aload_n 0, 1) := by decide +kernel
theorem dX7_runs_163 : decode cX7_runs 163 = .ok (.dup, 1) := by decide +kernel
theorem dX7_runs_164 : decode cX7_runs 164 = .ok (.getfield 239, 3) := by decide +kernel
theorem dX7_runs_167 : decode cX7_runs 167 = .ok (.iconst 1, 1) := by decide +kernel
theorem dX7_runs_168 : decode cX7_runs 168 = .ok (.iload_n 3, 1) := by decide +kernel
theorem dX7_runs_169 : decode cX7_runs 169 = .ok (.ishl, 1) := by decide +kernel
theorem dX7_runs_170 : decode cX7_runs 170 = .ok (.iadd, 1) := by decide +kernel
theorem dX7_runs_171 : decode cX7_runs 171 = .ok (.putfield 239, 3) := by decide +kernel
theorem dX7_runs_174 : decode cX7_runs 174 = .ok (.iinc 3 1, 3) := by decide +kernel
theorem dX7_runs_177 : decode cX7_runs 177 = .ok (.goto (-33), 3) := by decide +kernel
theorem dX7_runs_180 : decode cX7_runs 180 = .ok (.aload_n 0, 1) := by decide +kernel
theorem dX7_runs_181 : decode cX7_runs 181 = .ok (.aload_n 0, 1) := by decide +kernel
theorem dX7_runs_182 : decode cX7_runs 182 = .ok (.getfield 93, 3) := by decide +kernel
theorem dX7_runs_185 : decode cX7_runs 185 = .ok (.iconst 1, 1) := by decide +kernel
theorem dX7_runs_186 : decode cX7_runs 186 = .ok (.invokevirtual 189, 3) := by decide +kernel
theorem dX7_runs_189 : decode cX7_runs 189 = .ok (.return_, 1) := by decide +kernel
theorem dX7_isMany_0 : decode cX7_isMany 0 = .ok (.aload_n 0, 1) := by decide +kernel
theorem dX7_isMany_1 : decode cX7_isMany 1 = .ok (.iload_n 1, 1) := by decide +kernel
theorem dX7_isMany_2 : decode cX7_isMany 2 = .ok (.iconst 0, 1) := by decide +kernel
theorem dX7_isMany_3 : decode cX7_isMany 3 = .ok (.bipush 24, 2) := by decide +kernel
theorem dX7_isMany_5 : decode cX7_isMany 5 = .ok (.invokevirtual 120, 3) := by decide +kernel
theorem dX7_isMany_8 : decode cX7_isMany 8 = .ok (.ireturn, 1) := by decide +kernel
theorem dX7_ahead_0 : decode cX7_ahead 0 = .ok (.iload_n 2, 1) := by decide +kernel
theorem dX7_ahead_1 : decode cX7_ahead 1 = .ok (.ifCond .lt 8, 3) := by decide +kernel
theorem dX7_ahead_4 : decode cX7_ahead 4 = .ok (.iload_n 2, 1) := by decide +kernel
theorem dX7_ahead_5 : decode cX7_ahead 5 = .ok (.iconst 2, 1) := by decide +kernel
theorem dX7_ahead_6 : decode cX7_ahead 6 = .ok (.if_icmp .le 10, 3) := by decide +kernel
theorem dX7_ahead_9 : decode cX7_ahead 9 = .ok (.aload_n 0, 1) := by decide +kernel
theorem dX7_ahead_10 : decode cX7_ahead 10 = .ok (.bipush (-5), 2) := by decide +kernel
theorem dX7_ahead_12 : decode cX7_ahead 12 = .ok (.invokevirtual 109, 3) := by decide +kernel
theorem dX7_ahead_15 : decode cX7_ahead 15 = .ok (.ireturn, 1) := by decide +kernel
theorem dX7_ahead_16 : decode cX7_ahead 16 = .ok (.aload_n 0, 1) := by decide +kernel
theorem dX7_ahead_17 : decode cX7_ahead 17 = .ok (.iload_n 1, 1) := by decide +kernel
theorem dX7_ahead_18 : decode cX7_ahead 18 = .ok (.invokevirtual 242, 3) := by decide +kernel
theorem dX7_ahead_21 : decode cX7_ahead 21 = .ok (.ifCond .ne 10, 3) := by decide +kernel
theorem dX7_ahead_24 : decode cX7_ahead 24 = .ok (.aload_n 0, 1) := by decide +kernel
theorem dX7_ahead_25 : decode cX7_ahead 25 = .ok (.bipush (-6), 2) := by decide +kernel
theorem dX7_ahead_27 : decode cX7_ahead 27 = .ok (.invokevirtual 109, 3) := by decide +kernel
theorem dX7_ahead_30 : decode cX7_ahead 30 = .ok (.ireturn, 1) := by decide +kernel
theorem dX7_ahead_31 : decode cX7_ahead 31 = .ok (.aload_n 0, 1) := by decide +kernel
theorem dX7_ahead_32 : decode cX7_ahead 32 = .ok (.iload_n 1, 1) := by decide +kernel
theorem dX7_ahead_33 : decode cX7_ahead 33 = .ok (.invokevirtual 245, 3) := by decide +kernel
theorem dX7_ahead_36 : decode cX7_ahead 36 = .ok (.iload_n 2, 1) := by decide +kernel
theorem dX7_ahead_37 : decode cX7_ahead 37 = .ok (.ifCond .ne 10, 3) := by decide +kernel
theorem dX7_ahead_40 : decode cX7_ahead 40 = .ok (.aload_n 0, 1) := by decide +kernel
theorem dX7_ahead_41 : decode cX7_ahead 41 = .ok (.getfield 236, 3) := by decide +kernel
theorem dX7_ahead_44 : decode cX7_ahead 44 = .ok (.goto 19, 3) := by decide +kernel
theorem dX7_ahead_47 : decode cX7_ahead 47 = .ok (.iload_n 2, 1) := by decide +kernel
theorem dX7_ahead_48 : decode cX7_ahead 48 = .ok (.iconst 1, 1) := by decide +kernel
theorem dX7_ahead_49 : decode cX7_ahead 49 = .ok (.if_icmp .ne 10, 3) := by decide +kernel
theorem dX7_ahead_52 : decode cX7_ahead 52 = .ok (.aload_n 0, 1) := by decide +kernel
theorem dX7_ahead_53 : decode cX7_ahead 53 = .ok (.getfield 218, 3) := by decide +kernel
theorem dX7_ahead_56 : decode cX7_ahead 56 = .ok (.goto 7, 3) := by decide +kernel
theorem dX7_ahead_59 : decode cX7_ahead 59 = .ok (.aload_n 0, 1) := by decide +kernel
theorem dX7_ahead_60 : decode cX7_ahead 60 = .ok (.getfield 221, 3) := by decide +kernel
theorem dX7_ahead_63 : decode cX7_ahead 63 = .ok (.ireturn, 1) := by decide +kernel
theorem dX7_worst_0 : decode cX7_worst 0 = .ok (.iload_n 2, 1) := by decide +kernel
theorem dX7_worst_1 : decode cX7_worst 1 = .ok (.ifCond .lt 8, 3) := by decide +kernel
theorem dX7_worst_4 : decode cX7_worst 4 = .ok (.iload_n 2, 1) := by decide +kernel
theorem dX7_worst_5 : decode cX7_worst 5 = .ok (.iconst 1, 1) := by decide +kernel
theorem dX7_worst_6 : decode cX7_worst 6 = .ok (.if_icmp .le 10, 3) := by decide +kernel
theorem dX7_worst_9 : decode cX7_worst 9 = .ok (.aload_n 0, 1) := by decide +kernel
theorem dX7_worst_10 : decode cX7_worst 10 = .ok (.bipush (-5), 2) := by decide +kernel
theorem dX7_worst_12 : decode cX7_worst 12 = .ok (.invokevirtual 128, 3) := by decide +kernel
theorem dX7_worst_15 : decode cX7_worst 15 = .ok (.ireturn, 1) := by decide +kernel
theorem dX7_worst_16 : decode cX7_worst 16 = .ok (.aload_n 0, 1) := by decide +kernel
theorem dX7_worst_17 : decode cX7_worst 17 = .ok (.iload_n 1, 1) := by decide +kernel
theorem dX7_worst_18 : decode cX7_worst 18 = .ok (.iconst 1, 1) := by decide +kernel
theorem dX7_worst_19 : decode cX7_worst 19 = .ok (.bipush 24, 2) := by decide +kernel
theorem dX7_worst_21 : decode cX7_worst 21 = .ok (.invokevirtual 120, 3) := by decide +kernel
theorem dX7_worst_24 : decode cX7_worst 24 = .ok (.ifCond .ne 10, 3) := by decide +kernel
theorem dX7_worst_27 : decode cX7_worst 27 = .ok (.aload_n 0, 1) := by decide +kernel
theorem dX7_worst_28 : decode cX7_worst 28 = .ok (.bipush (-6), 2) := by decide +kernel
theorem dX7_worst_30 : decode cX7_worst 30 = .ok (.invokevirtual 128, 3) := by decide +kernel
theorem dX7_worst_33 : decode cX7_worst 33 = .ok (.ireturn, 1) := by decide +kernel
theorem dX7_worst_34 : decode cX7_worst 34 = .ok (.aload_n 0, 1) := by decide +kernel
theorem dX7_worst_35 : decode cX7_worst 35 = .ok (.iload_n 1, 1) := by decide +kernel
theorem dX7_worst_36 : decode cX7_worst 36 = .ok (.invokevirtual 245, 3) := by decide +kernel
theorem dX7_worst_39 : decode cX7_worst 39 = .ok (.iload_n 2, 1) := by decide +kernel
theorem dX7_worst_40 : decode cX7_worst 40 = .ok (.ifCond .ne 10, 3) := by decide +kernel
theorem dX7_worst_43 : decode cX7_worst 43 = .ok (.aload_n 0, 1) := by decide +kernel
theorem dX7_worst_44 : decode cX7_worst 44 = .ok (.getfield 224, 3) := by decide +kernel
theorem dX7_worst_47 : decode cX7_worst 47 = .ok (.goto 7, 3) := by decide +kernel
theorem dX7_worst_50 : decode cX7_worst 50 = .ok (.aload_n 0, 1) := by decide +kernel
theorem dX7_worst_51 : decode cX7_worst 51 = .ok (.getfield 227, 3) := by decide +kernel
theorem dX7_worst_54 : decode cX7_worst 54 = .ok (.ireturn, 1) := by decide +kernel
theorem dX7_ones_0 : decode cX7_ones 0 = .ok (.aload_n 0, 1) := by decide +kernel
theorem dX7_ones_1 : decode cX7_ones 1 = .ok (.iload_n 1, 1) := by decide +kernel
theorem dX7_ones_2 : decode cX7_ones 2 = .ok (.invokevirtual 113, 3) := by decide +kernel
theorem dX7_ones_5 : decode cX7_ones 5 = .ok (.ifCond .ne 9, 3) := by decide +kernel
theorem dX7_ones_8 : decode cX7_ones 8 = .ok (.aload_n 0, 1) := by decide +kernel
theorem dX7_ones_9 : decode cX7_ones 9 = .ok (.iconst (-1), 1) := by decide +kernel
theorem dX7_ones_10 : decode cX7_ones 10 = .ok (.invokevirtual 109, 3) := by decide +kernel
theorem dX7_ones_13 : decode cX7_ones 13 = .ok (.ireturn, 1) := by decide +kernel
theorem dX7_ones_14 : decode cX7_ones 14 = .ok (.iload_n 3, 1) := by decide +kernel
theorem dX7_ones_15 : decode cX7_ones 15 = .ok (.ifCond .lt 8, 3) := by decide +kernel
theorem dX7_ones_18 : decode cX7_ones 18 = .ok (.iload_n 3, 1) := by decide +kernel
theorem dX7_ones_19 : decode cX7_ones 19 = .ok (.iconst 1, 1) := by decide +kernel
theorem dX7_ones_20 : decode cX7_ones 20 = .ok (.if_icmp .le 10, 3) := by decide +kernel
theorem dX7_ones_23 : decode cX7_ones 23 = .ok (.aload_n 0, 1) := by decide +kernel
theorem dX7_ones_24 : decode cX7_ones 24 = .ok (.bipush (-5), 2) := by decide +kernel
theorem dX7_ones_26 : decode cX7_ones 26 = .ok (.invokevirtual 109, 3) := by decide +kernel
theorem dX7_ones_29 : decode cX7_ones 29 = .ok (.ireturn, 1) := by decide +kernel
theorem dX7_ones_30 : decode cX7_ones 30 = .ok (.aload_n 0, 1) := by decide +kernel
theorem dX7_ones_31 : decode cX7_ones 31 = .ok (.iload_n 2, 1) := by decide +kernel
theorem dX7_ones_32 : decode cX7_ones 32 = .ok (.invokevirtual 242, 3) := by decide +kernel
theorem dX7_ones_35 : decode cX7_ones 35 = .ok (.ifCond .ne 10, 3) := by decide +kernel
theorem dX7_ones_38 : decode cX7_ones 38 = .ok (.aload_n 0, 1) := by decide +kernel
theorem dX7_ones_39 : decode cX7_ones 39 = .ok (.bipush (-6), 2) := by decide +kernel
theorem dX7_ones_41 : decode cX7_ones 41 = .ok (.invokevirtual 109, 3) := by decide +kernel
theorem dX7_ones_44 : decode cX7_ones 44 = .ok (.ireturn, 1) := by decide +kernel
theorem dX7_ones_45 : decode cX7_ones 45 = .ok (.aload_n 0, 1) := by decide +kernel
theorem dX7_ones_46 : decode cX7_ones 46 = .ok (.aload_n 0, 1) := by decide +kernel
theorem dX7_ones_47 : decode cX7_ones 47 = .ok (.getfield 93, 3) := by decide +kernel
theorem dX7_ones_50 : decode cX7_ones 50 = .ok (.iconst 0, 1) := by decide +kernel
theorem dX7_ones_51 : decode cX7_ones 51 = .ok (.invokevirtual 189, 3) := by decide +kernel
theorem dX7_ones_54 : decode cX7_ones 54 = .ok (.iconst 0, 1) := by decide +kernel
theorem dX7_ones_55 : decode cX7_ones 55 = .ok (.istore 4, 2) := by decide +kernel
theorem dX7_ones_57 : decode cX7_ones 57 = .ok (.iload 4, 2) := by decide +kernel
theorem dX7_ones_59 : decode cX7_ones 59 = .ok (.iload_n 2, 1) := by decide +kernel
theorem dX7_ones_60 : decode cX7_ones 60 = .ok (.if_icmp .ge 13, 3) := by decide +kernel
theorem dX7_ones_63 : decode cX7_ones 63 = .ok (.aload_n 0, 1) := by decide +kernel
theorem dX7_ones_64 : decode cX7_ones 64 = .ok (.invokevirtual 230, 3) := by decide +kernel
theorem dX7_ones_67 : decode cX7_ones 67 = .ok (.iinc 4 1, 3) := by decide +kernel
theorem dX7_ones_70 : decode cX7_ones 70 = .ok (.goto (-13), 3) := by decide +kernel
theorem dX7_ones_73 : decode cX7_ones 73 = .ok (.iload_n 3, 1) := by decide +kernel
theorem dX7_ones_74 : decode cX7_ones 74 = .ok (.ifCond .ne 12, 3) := by decide +kernel
theorem dX7_ones_77 : decode cX7_ones 77 = .ok (.aload_n 0, 1) := by decide +kernel
theorem dX7_ones_78 : decode cX7_ones 78 = .ok (.getfield 50, 3) := by decide +kernel
theorem dX7_ones_81 : decode cX7_ones 81 = .ok (.iload_n 1, 1) := by decide +kernel
theorem dX7_ones_82 : decode cX7_ones 82 = .ok (.iaload, 1) := by decide +kernel
theorem dX7_ones_83 : decode cX7_ones 83 = .ok (.goto 9, 3) := by decide +kernel
theorem dX7_ones_86 : decode cX7_ones 86 = .ok (.aload_n 0, 1) := by decide +kernel
theorem dX7_ones_87 : decode cX7_ones 87 = .ok (.getfield 35, 3) := by decide +kernel
theorem dX7_ones_90 : decode cX7_ones 90 = .ok (.iload_n 1, 1) := by decide +kernel
theorem dX7_ones_91 : decode cX7_ones 91 = .ok (.iaload, 1) := by decide +kernel
theorem dX7_ones_92 : decode cX7_ones 92 = .ok (.istore 4, 2) := by decide +kernel
theorem dX7_ones_94 : decode cX7_ones 94 = .ok (.aload_n 0, 1) := by decide +kernel
theorem dX7_ones_95 : decode cX7_ones 95 = .ok (.aload_n 0, 1) := by decide +kernel
theorem dX7_ones_96 : decode cX7_ones 96 = .ok (.getfield 93, 3) := by decide +kernel
theorem dX7_ones_99 : decode cX7_ones 99 = .ok (.iconst 1, 1) := by decide +kernel
theorem dX7_ones_100 : decode cX7_ones 100 = .ok (.invokevirtual 189, 3) := by decide +kernel
theorem dX7_ones_103 : decode cX7_ones 103 = .ok (.iload 4, 2) := by decide +kernel
theorem dX7_ones_105 : decode cX7_ones 105 = .ok (.ireturn, 1) := by decide +kernel
theorem dX7_lost_0 : decode cX7_lost 0 = .ok (.aload_n 0, 1) := by decide +kernel
theorem dX7_lost_1 : decode cX7_lost 1 = .ok (.iload_n 1, 1) := by decide +kernel
theorem dX7_lost_2 : decode cX7_lost 2 = .ok (.invokevirtual 242, 3) := by decide +kernel
theorem dX7_lost_5 : decode cX7_lost 5 = .ok (.ifCond .ne 10, 3) := by decide +kernel
theorem dX7_lost_8 : decode cX7_lost 8 = .ok (.aload_n 0, 1) := by decide +kernel
theorem dX7_lost_9 : decode cX7_lost 9 = .ok (.bipush (-6), 2) := by decide +kernel
theorem dX7_lost_11 : decode cX7_lost 11 = .ok (.invokevirtual 109, 3) := by decide +kernel
theorem dX7_lost_14 : decode cX7_lost 14 = .ok (.ireturn, 1) := by decide +kernel
theorem dX7_lost_15 : decode cX7_lost 15 = .ok (.aload_n 0, 1) := by decide +kernel
theorem dX7_lost_16 : decode cX7_lost 16 = .ok (.iload_n 1, 1) := by decide +kernel
theorem dX7_lost_17 : decode cX7_lost 17 = .ok (.invokevirtual 245, 3) := by decide +kernel
theorem dX7_lost_20 : decode cX7_lost 20 = .ok (.iconst 0, 1) := by decide +kernel
theorem dX7_lost_21 : decode cX7_lost 21 = .ok (.istore_n 2, 1) := by decide +kernel
theorem dX7_lost_22 : decode cX7_lost 22 = .ok (.iconst 0, 1) := by decide +kernel
theorem dX7_lost_23 : decode cX7_lost 23 = .ok (.istore_n 3, 1) := by decide +kernel
theorem dX7_lost_24 : decode cX7_lost 24 = .ok (.iload_n 3, 1) := by decide +kernel
theorem dX7_lost_25 : decode cX7_lost 25 = .ok (.aload_n 0, 1) := by decide +kernel
theorem dX7_lost_26 : decode cX7_lost 26 = .ok (.getfield 102, 3) := by decide +kernel
theorem dX7_lost_29 : decode cX7_lost 29 = .ok (.if_icmp .ge 29, 3) := by decide +kernel
theorem dX7_lost_32 : decode cX7_lost 32 = .ok (.aload_n 0, 1) := by decide +kernel
theorem dX7_lost_33 : decode cX7_lost 33 = .ok (.getfield 53, 3) := by decide +kernel
theorem dX7_lost_36 : decode cX7_lost 36 = .ok (.iload_n 3, 1) := by decide +kernel
theorem dX7_lost_37 : decode cX7_lost 37 = .ok (.iaload, 1) := by decide +kernel
theorem dX7_lost_38 : decode cX7_lost 38 = .ok (.ifCond .ne 14, 3) := by decide +kernel
theorem dX7_lost_41 : decode cX7_lost 41 = .ok (.iload_n 2, 1) := by decide +kernel
theorem dX7_lost_42 : decode cX7_lost 42 = .ok (.aload_n 0, 1) := by decide +kernel
theorem dX7_lost_43 : decode cX7_lost 43 = .ok (.getfield 239, 3) := by decide +kernel
theorem dX7_lost_46 : decode cX7_lost 46 = .ok (.iconst 1, 1) := by decide +kernel
theorem dX7_lost_47 : decode cX7_lost 47 = .ok (.iload_n 3, 1) := by decide +kernel
theorem dX7_lost_48 : decode cX7_lost 48 = .ok (.ishl, 1) := by decide +kernel
theorem dX7_lost_49 : decode cX7_lost 49 = .ok (.iand, 1) := by decide +kernel
theorem dX7_lost_50 : decode cX7_lost 50 = .ok (.iadd, 1) := by decide +kernel
theorem dX7_lost_51 : decode cX7_lost 51 = .ok (.istore_n 2, 1) := by decide +kernel
theorem dX7_lost_52 : decode cX7_lost 52 = .ok (.iinc 3 1, 3) := by decide +kernel
theorem dX7_lost_55 : decode cX7_lost 55 = .ok (.goto (-31), 3) := by decide +kernel
theorem dX7_lost_58 : decode cX7_lost 58 = .ok (.iload_n 2, 1) := by decide +kernel
theorem dX7_lost_59 : decode cX7_lost 59 = .ok (.ireturn, 1) := by decide +kernel
theorem dX7_bits_0 : decode cX7_bits 0 = .ok (.iconst 0, 1) := by decide +kernel
theorem dX7_bits_1 : decode cX7_bits 1 = .ok (.istore_n 2, 1) := by decide +kernel
theorem dX7_bits_2 : decode cX7_bits 2 = .ok (.iconst 0, 1) := by decide +kernel
theorem dX7_bits_3 : decode cX7_bits 3 = .ok (.istore_n 3, 1) := by decide +kernel
theorem dX7_bits_4 : decode cX7_bits 4 = .ok (.iload_n 3, 1) := by decide +kernel
theorem dX7_bits_5 : decode cX7_bits 5 = .ok (.bipush 10, 2) := by decide +kernel
theorem dX7_bits_7 : decode cX7_bits 7 = .ok (.if_icmp .ge 17, 3) := by decide +kernel
theorem dX7_bits_10 : decode cX7_bits 10 = .ok (.iload_n 2, 1) := by decide +kernel
theorem dX7_bits_11 : decode cX7_bits 11 = .ok (.iload_n 1, 1) := by decide +kernel
theorem dX7_bits_12 : decode cX7_bits 12 = .ok (.iload_n 3, 1) := by decide +kernel
theorem dX7_bits_13 : decode cX7_bits 13 = .ok (.ishr, 1) := by decide +kernel
theorem dX7_bits_14 : decode cX7_bits 14 = .ok (.iconst 1, 1) := by decide +kernel
theorem dX7_bits_15 : decode cX7_bits 15 = .ok (.iand, 1) := by decide +kernel
theorem dX7_bits_16 : decode cX7_bits 16 = .ok (.iadd, 1) := by decide +kernel
theorem dX7_bits_17 : decode cX7_bits 17 = .ok (.istore_n 2, 1) := by decide +kernel
theorem dX7_bits_18 : decode cX7_bits 18 = .ok (.iinc 3 1, 3) := by decide +kernel
theorem dX7_bits_21 : decode cX7_bits 21 = .ok (.goto (-17), 3) := by decide +kernel
theorem dX7_bits_24 : decode cX7_bits 24 = .ok (.iload_n 2, 1) := by decide +kernel
theorem dX7_bits_25 : decode cX7_bits 25 = .ok (.ireturn, 1) := by decide +kernel
theorem dX7_ring_0 : decode cX7_ring 0 = .ok (.iload_n 2, 1) := by decide +kernel
theorem dX7_ring_1 : decode cX7_ring 1 = .ok (.ifCond .lt 8, 3) := by decide +kernel
theorem dX7_ring_4 : decode cX7_ring 4 = .ok (.iload_n 2, 1) := by decide +kernel
theorem dX7_ring_5 : decode cX7_ring 5 = .ok (.iconst 1, 1) := by decide +kernel
theorem dX7_ring_6 : decode cX7_ring 6 = .ok (.if_icmp .le 10, 3) := by decide +kernel
theorem dX7_ring_9 : decode cX7_ring 9 = .ok (.aload_n 0, 1) := by decide +kernel
theorem dX7_ring_10 : decode cX7_ring 10 = .ok (.bipush (-5), 2) := by decide +kernel
theorem dX7_ring_12 : decode cX7_ring 12 = .ok (.invokevirtual 128, 3) := by decide +kernel
theorem dX7_ring_15 : decode cX7_ring 15 = .ok (.ireturn, 1) := by decide +kernel
theorem dX7_ring_16 : decode cX7_ring 16 = .ok (.aload_n 0, 1) := by decide +kernel
theorem dX7_ring_17 : decode cX7_ring 17 = .ok (.iload_n 1, 1) := by decide +kernel
theorem dX7_ring_18 : decode cX7_ring 18 = .ok (.iconst 0, 1) := by decide +kernel
theorem dX7_ring_19 : decode cX7_ring 19 = .ok (.iconst 3, 1) := by decide +kernel
theorem dX7_ring_20 : decode cX7_ring 20 = .ok (.invokevirtual 120, 3) := by decide +kernel
theorem dX7_ring_23 : decode cX7_ring 23 = .ok (.ifCond .ne 10, 3) := by decide +kernel
theorem dX7_ring_26 : decode cX7_ring 26 = .ok (.aload_n 0, 1) := by decide +kernel
theorem dX7_ring_27 : decode cX7_ring 27 = .ok (.bipush (-6), 2) := by decide +kernel
theorem dX7_ring_29 : decode cX7_ring 29 = .ok (.invokevirtual 128, 3) := by decide +kernel
theorem dX7_ring_32 : decode cX7_ring 32 = .ok (.ireturn, 1) := by decide +kernel
theorem dX7_ring_33 : decode cX7_ring 33 = .ok (.iconst (-1), 1) := by decide +kernel
theorem dX7_ring_34 : decode cX7_ring 34 = .ok (.istore_n 3, 1) := by decide +kernel
theorem dX7_ring_35 : decode cX7_ring 35 = .ok (.iconst (-1), 1) := by decide +kernel
theorem dX7_ring_36 : decode cX7_ring 36 = .ok (.istore 4, 2) := by decide +kernel
theorem dX7_ring_38 : decode cX7_ring 38 = .ok (.iconst 0, 1) := by decide +kernel
theorem dX7_ring_39 : decode cX7_ring 39 = .ok (.istore 5, 2) := by decide +kernel
theorem dX7_ring_41 : decode cX7_ring 41 = .ok (.iconst 0, 1) := by decide +kernel
theorem dX7_ring_42 : decode cX7_ring 42 = .ok (.istore 6, 2) := by decide +kernel
theorem dX7_ring_44 : decode cX7_ring 44 = .ok (.iload 6, 2) := by decide +kernel
theorem dX7_ring_46 : decode cX7_ring 46 = .ok (.aload_n 0, 1) := by decide +kernel
theorem dX7_ring_47 : decode cX7_ring 47 = .ok (.getfield 102, 3) := by decide +kernel
theorem dX7_ring_50 : decode cX7_ring 50 = .ok (.if_icmp .ge 28, 3) := by decide +kernel
theorem dX7_ring_53 : decode cX7_ring 53 = .ok (.aload_n 0, 1) := by decide +kernel
theorem dX7_ring_54 : decode cX7_ring 54 = .ok (.getfield 53, 3) := by decide +kernel
theorem dX7_ring_57 : decode cX7_ring 57 = .ok (.iload 6, 2) := by decide +kernel
theorem dX7_ring_59 : decode cX7_ring 59 = .ok (.iaload, 1) := by decide +kernel
theorem dX7_ring_60 : decode cX7_ring 60 = .ok (.ifCond .ne 12, 3) := by decide +kernel
theorem dX7_ring_63 : decode cX7_ring 63 = .ok (.iload 5, 2) := by decide +kernel
theorem dX7_ring_65 : decode cX7_ring 65 = .ok (.iconst 1, 1) := by decide +kernel
theorem dX7_ring_66 : decode cX7_ring 66 = .ok (.iload 6, 2) := by decide +kernel
theorem dX7_ring_68 : decode cX7_ring 68 = .ok (.ishl, 1) := by decide +kernel
theorem dX7_ring_69 : decode cX7_ring 69 = .ok (.iadd, 1) := by decide +kernel
theorem dX7_ring_70 : decode cX7_ring 70 = .ok (.istore 5, 2) := by decide +kernel
theorem dX7_ring_72 : decode cX7_ring 72 = .ok (.iinc 6 1, 3) := by decide +kernel
theorem dX7_ring_75 : decode cX7_ring 75 = .ok (.goto (-31), 3) := by decide +kernel
theorem dX7_ring_78 : decode cX7_ring 78 = .ok (.iconst 0, 1) := by decide +kernel
theorem dX7_ring_79 : decode cX7_ring 79 = .ok (.istore 6, 2) := by decide +kernel
theorem dX7_ring_81 : decode cX7_ring 81 = .ok (.iload 6, 2) := by decide +kernel
theorem dX7_ring_83 : decode cX7_ring 83 = .ok (.iconst 1, 1) := by decide +kernel
theorem dX7_ring_84 : decode cX7_ring 84 = .ok (.aload_n 0, 1) := by decide +kernel
theorem dX7_ring_85 : decode cX7_ring 85 = .ok (.getfield 102, 3) := by decide +kernel
theorem dX7_ring_88 : decode cX7_ring 88 = .ok (.ishl, 1) := by decide +kernel
theorem dX7_ring_89 : decode cX7_ring 89 = .ok (.if_icmp .ge 59, 3) := by decide +kernel
theorem dX7_ring_92 : decode cX7_ring 92 = .ok (.aload_n 0, 1) := by decide +kernel
theorem dX7_ring_93 : decode cX7_ring 93 = .ok (.iload 6, 2) := by decide +kernel
theorem dX7_ring_95 : decode cX7_ring 95 = .ok (.invokevirtual 248, 3) := by decide +kernel
theorem dX7_ring_98 : decode cX7_ring 98 = .ok (.iload_n 1, 1) := by decide +kernel
theorem dX7_ring_99 : decode cX7_ring 99 = .ok (.if_icmp .ne 43, 3) := by decide +kernel
theorem dX7_ring_102 : decode cX7_ring 102 = .ok (.iload 6, 2) := by decide +kernel
theorem dX7_ring_104 : decode cX7_ring 104 = .ok (.iload 5, 2) := by decide +kernel
theorem dX7_ring_106 : decode cX7_ring 106 = .ok (.iand, 1) := by decide +kernel
theorem dX7_ring_107 : decode cX7_ring 107 = .ok (.iload 6, 2) := by decide +kernel
theorem dX7_ring_109 : decode cX7_ring 109 = .ok (.if_icmp .eq 6, 3) := by decide +kernel
theorem dX7_ring_112 : decode cX7_ring 112 = .ok (.goto 30, 3) := by decide +kernel
theorem dX7_ring_115 : decode cX7_ring 115 = .ok (.aload_n 0, 1) := by decide +kernel
theorem dX7_ring_116 : decode cX7_ring 116 = .ok (.iload 6, 2) := by decide +kernel
theorem dX7_ring_118 : decode cX7_ring 118 = .ok (.invokevirtual 214, 3) := by decide +kernel
theorem dX7_ring_121 : decode cX7_ring 121 = .ok (.aload_n 0, 1) := by decide +kernel
theorem dX7_ring_122 : decode cX7_ring 122 = .ok (.getfield 211, 3) := by decide +kernel
theorem dX7_ring_125 : decode cX7_ring 125 = .ok (.iload 4, 2) := by decide +kernel
theorem dX7_ring_127 : decode cX7_ring 127 = .ok (.if_icmp .gt 6, 3) := by decide +kernel
theorem dX7_ring_130 : decode cX7_ring 130 = .ok (.goto 12, 3) := by decide +kernel
theorem dX7_ring_133 : decode cX7_ring 133 = .ok (.iload 6, 2) := by decide +kernel
theorem dX7_ring_135 : decode cX7_ring 135 = .ok (.istore_n 3, 1) := by decide +kernel
theorem dX7_ring_136 : decode cX7_ring 136 = .ok (.aload_n 0, 1) := by decide +kernel
theorem dX7_ring_137 : decode cX7_ring 137 = .ok (.getfield 211, 3) := by decide +kernel
theorem dX7_ring_140 : decode cX7_ring 140 = .ok (.istore 4, 2) := by decide +kernel
theorem dX7_ring_142 : decode cX7_ring 142 = .ok (.iinc 6 1, 3) := by decide +kernel
theorem dX7_ring_145 : decode cX7_ring 145 = .ok (.goto (-64), 3) := by decide +kernel
theorem dX7_ring_148 : decode cX7_ring 148 = .ok (.iload_n 2, 1) := by decide +kernel
theorem dX7_ring_149 : decode cX7_ring 149 = .ok (.ifCond .ne 7, 3) := by decide +kernel
theorem dX7_ring_152 : decode cX7_ring 152 = .ok (.iload_n 3, 1) := by decide +kernel
theorem dX7_ring_153 : decode cX7_ring 153 = .ok (.goto 5, 3) := by decide +kernel
theorem dX7_ring_156 : decode cX7_ring 156 = .ok (.iload 4, 2) := by decide +kernel
theorem dX7_ring_158 : decode cX7_ring 158 = .ok (.ireturn, 1) := by decide +kernel
theorem dX7_begin_0 : decode cX7_begin 0 = .ok (.aload_n 0, 1) := by decide +kernel
theorem dX7_begin_1 : decode cX7_begin 1 = .ok (.iload_n 1, 1) := by decide +kernel
theorem dX7_begin_2 : decode cX7_begin 2 = .ok (.invokevirtual 242, 3) := by decide +kernel
theorem dX7_begin_5 : decode cX7_begin 5 = .ok (.ifCond .ne 10, 3) := by decide +kernel
theorem dX7_begin_8 : decode cX7_begin 8 = .ok (.aload_n 0, 1) := by decide +kernel
theorem dX7_begin_9 : decode cX7_begin 9 = .ok (.bipush (-6), 2) := by decide +kernel
theorem dX7_begin_11 : decode cX7_begin 11 = .ok (.invokevirtual 109, 3) := by decide +kernel
theorem dX7_begin_14 : decode cX7_begin 14 = .ok (.ireturn, 1) := by decide +kernel
theorem dX7_begin_15 : decode cX7_begin 15 = .ok (.aload_n 0, 1) := by decide +kernel
theorem dX7_begin_16 : decode cX7_begin 16 = .ok (.getfield 7, 3) := by decide +kernel
theorem dX7_begin_19 : decode cX7_begin 19 = .ok (.istore_n 2, 1) := by decide +kernel
theorem dX7_begin_20 : decode cX7_begin 20 = .ok (.iconst 0, 1) := by decide +kernel
theorem dX7_begin_21 : decode cX7_begin 21 = .ok (.istore_n 3, 1) := by decide +kernel
theorem dX7_begin_22 : decode cX7_begin 22 = .ok (.iconst (-1), 1) := by decide +kernel
theorem dX7_begin_23 : decode cX7_begin 23 = .ok (.istore 4, 2) := by decide +kernel
theorem dX7_begin_25 : decode cX7_begin 25 = .ok (.iconst 0, 1) := by decide +kernel
theorem dX7_begin_26 : decode cX7_begin 26 = .ok (.istore 5, 2) := by decide +kernel
theorem dX7_begin_28 : decode cX7_begin 28 = .ok (.iload 5, 2) := by decide +kernel
theorem dX7_begin_30 : decode cX7_begin 30 = .ok (.bipush 20, 2) := by decide +kernel
theorem dX7_begin_32 : decode cX7_begin 32 = .ok (.if_icmp .gt 41, 3) := by decide +kernel
theorem dX7_begin_35 : decode cX7_begin 35 = .ok (.aload_n 0, 1) := by decide +kernel
theorem dX7_begin_36 : decode cX7_begin 36 = .ok (.iload 5, 2) := by decide +kernel
theorem dX7_begin_38 : decode cX7_begin 38 = .ok (.putfield 7, 3) := by decide +kernel
theorem dX7_begin_41 : decode cX7_begin 41 = .ok (.aload_n 0, 1) := by decide +kernel
theorem dX7_begin_42 : decode cX7_begin 42 = .ok (.iload_n 1, 1) := by decide +kernel
theorem dX7_begin_43 : decode cX7_begin 43 = .ok (.invokevirtual 245, 3) := by decide +kernel
theorem dX7_begin_46 : decode cX7_begin 46 = .ok (.aload_n 0, 1) := by decide +kernel
theorem dX7_begin_47 : decode cX7_begin 47 = .ok (.getfield 218, 3) := by decide +kernel
theorem dX7_begin_50 : decode cX7_begin 50 = .ok (.iload 4, 2) := by decide +kernel
theorem dX7_begin_52 : decode cX7_begin 52 = .ok (.if_icmp .gt 6, 3) := by decide +kernel
theorem dX7_begin_55 : decode cX7_begin 55 = .ok (.goto 12, 3) := by decide +kernel
theorem dX7_begin_58 : decode cX7_begin 58 = .ok (.iload 5, 2) := by decide +kernel
theorem dX7_begin_60 : decode cX7_begin 60 = .ok (.istore_n 3, 1) := by decide +kernel
theorem dX7_begin_61 : decode cX7_begin 61 = .ok (.aload_n 0, 1) := by decide +kernel
theorem dX7_begin_62 : decode cX7_begin 62 = .ok (.getfield 218, 3) := by decide +kernel
theorem dX7_begin_65 : decode cX7_begin 65 = .ok (.istore 4, 2) := by decide +kernel
theorem dX7_begin_67 : decode cX7_begin 67 = .ok (.iinc 5 1, 3) := by decide +kernel
theorem dX7_begin_70 : decode cX7_begin 70 = .ok (.goto (-42), 3) := by decide +kernel
theorem dX7_begin_73 : decode cX7_begin 73 = .ok (.aload_n 0, 1) := by decide +kernel
theorem dX7_begin_74 : decode cX7_begin 74 = .ok (.iload_n 2, 1) := by decide +kernel
theorem dX7_begin_75 : decode cX7_begin 75 = .ok (.putfield 7, 3) := by decide +kernel
theorem dX7_begin_78 : decode cX7_begin 78 = .ok (.iload_n 3, 1) := by decide +kernel
theorem dX7_begin_79 : decode cX7_begin 79 = .ok (.ireturn, 1) := by decide +kernel
theorem dX7_room_0 : decode cX7_room 0 = .ok (.aload_n 0, 1) := by decide +kernel
theorem dX7_room_1 : decode cX7_room 1 = .ok (.iload_n 1, 1) := by decide +kernel
theorem dX7_room_2 : decode cX7_room 2 = .ok (.invokevirtual 242, 3) := by decide +kernel
theorem dX7_room_5 : decode cX7_room 5 = .ok (.ifCond .ne 10, 3) := by decide +kernel
theorem dX7_room_8 : decode cX7_room 8 = .ok (.aload_n 0, 1) := by decide +kernel
theorem dX7_room_9 : decode cX7_room 9 = .ok (.bipush (-6), 2) := by decide +kernel
theorem dX7_room_11 : decode cX7_room 11 = .ok (.invokevirtual 109, 3) := by decide +kernel
theorem dX7_room_14 : decode cX7_room 14 = .ok (.ireturn, 1) := by decide +kernel
theorem dX7_room_15 : decode cX7_room 15 = .ok (.aload_n 0, 1) := by decide +kernel
theorem dX7_room_16 : decode cX7_room 16 = .ok (.getfield 13, 3) := by decide +kernel
theorem dX7_room_19 : decode cX7_room 19 = .ok (.istore_n 2, 1) := by decide +kernel
theorem dX7_room_20 : decode cX7_room 20 = .ok (.iconst 0, 1) := by decide +kernel
theorem dX7_room_21 : decode cX7_room 21 = .ok (.istore_n 3, 1) := by decide +kernel
theorem dX7_room_22 : decode cX7_room 22 = .ok (.iinc 3 1, 3) := by decide +kernel
theorem dX7_room_25 : decode cX7_room 25 = .ok (.aload_n 0, 1) := by decide +kernel
theorem dX7_room_26 : decode cX7_room 26 = .ok (.iload_n 3, 1) := by decide +kernel
theorem dX7_room_27 : decode cX7_room 27 = .ok (.putfield 13, 3) := by decide +kernel
theorem dX7_room_30 : decode cX7_room 30 = .ok (.aload_n 0, 1) := by decide +kernel
theorem dX7_room_31 : decode cX7_room 31 = .ok (.iload_n 1, 1) := by decide +kernel
theorem dX7_room_32 : decode cX7_room 32 = .ok (.invokevirtual 245, 3) := by decide +kernel
theorem dX7_room_35 : decode cX7_room 35 = .ok (.aload_n 0, 1) := by decide +kernel
theorem dX7_room_36 : decode cX7_room 36 = .ok (.getfield 221, 3) := by decide +kernel
theorem dX7_room_39 : decode cX7_room 39 = .ok (.ifCond .gt (-17), 3) := by decide +kernel
theorem dX7_room_42 : decode cX7_room 42 = .ok (.aload_n 0, 1) := by decide +kernel
theorem dX7_room_43 : decode cX7_room 43 = .ok (.iload_n 2, 1) := by decide +kernel
theorem dX7_room_44 : decode cX7_room 44 = .ok (.putfield 13, 3) := by decide +kernel
theorem dX7_room_47 : decode cX7_room 47 = .ok (.iload_n 3, 1) := by decide +kernel
theorem dX7_room_48 : decode cX7_room 48 = .ok (.ireturn, 1) := by decide +kernel
theorem dX7_take_0 : decode cX7_take 0 = .ok (.aload_n 0, 1) := by decide +kernel
theorem dX7_take_1 : decode cX7_take 1 = .ok (.iload_n 1, 1) := by decide +kernel
theorem dX7_take_2 : decode cX7_take 2 = .ok (.invokevirtual 242, 3) := by decide +kernel
theorem dX7_take_5 : decode cX7_take 5 = .ok (.ifCond .ne 10, 3) := by decide +kernel
theorem dX7_take_8 : decode cX7_take 8 = .ok (.aload_n 0, 1) := by decide +kernel
theorem dX7_take_9 : decode cX7_take 9 = .ok (.bipush (-6), 2) := by decide +kernel
theorem dX7_take_11 : decode cX7_take 11 = .ok (.invokevirtual 109, 3) := by decide +kernel
theorem dX7_take_14 : decode cX7_take 14 = .ok (.ireturn, 1) := by decide +kernel
theorem dX7_take_15 : decode cX7_take 15 = .ok (.iconst 0, 1) := by decide +kernel
theorem dX7_take_16 : decode cX7_take 16 = .ok (.istore_n 2, 1) := by decide +kernel
theorem dX7_take_17 : decode cX7_take 17 = .ok (.iconst (-1), 1) := by decide +kernel
theorem dX7_take_18 : decode cX7_take 18 = .ok (.istore_n 3, 1) := by decide +kernel
theorem dX7_take_19 : decode cX7_take 19 = .ok (.iconst 0, 1) := by decide +kernel
theorem dX7_take_20 : decode cX7_take 20 = .ok (.istore 4, 2) := by decide +kernel
theorem dX7_take_22 : decode cX7_take 22 = .ok (.iload 4, 2) := by decide +kernel
theorem dX7_take_24 : decode cX7_take 24 = .ok (.aload_n 0, 1) := by decide +kernel
theorem dX7_take_25 : decode cX7_take 25 = .ok (.getfield 102, 3) := by decide +kernel
theorem dX7_take_28 : decode cX7_take 28 = .ok (.if_icmp .ge 23, 3) := by decide +kernel
theorem dX7_take_31 : decode cX7_take 31 = .ok (.aload_n 0, 1) := by decide +kernel
theorem dX7_take_32 : decode cX7_take 32 = .ok (.getfield 96, 3) := by decide +kernel
theorem dX7_take_35 : decode cX7_take 35 = .ok (.iload 4, 2) := by decide +kernel
theorem dX7_take_37 : decode cX7_take 37 = .ok (.aload_n 0, 1) := by decide +kernel
theorem dX7_take_38 : decode cX7_take 38 = .ok (.getfield 53, 3) := by decide +kernel
theorem dX7_take_41 : decode cX7_take 41 = .ok (.iload 4, 2) := by decide +kernel
theorem dX7_take_43 : decode cX7_take 43 = .ok (.iaload, 1) := by decide +kernel
theorem dX7_take_44 : decode cX7_take 44 = .ok (.iastore, 1) := by decide +kernel
theorem dX7_take_45 : decode cX7_take 45 = .ok (.iinc 4 1, 3) := by decide +kernel
theorem dX7_take_48 : decode cX7_take 48 = .ok (.goto (-26), 3) := by decide +kernel
theorem dX7_take_51 : decode cX7_take 51 = .ok (.iconst 0, 1) := by decide +kernel
theorem dX7_take_52 : decode cX7_take 52 = .ok (.istore 4, 2) := by decide +kernel
theorem dX7_take_54 : decode cX7_take 54 = .ok (.iload 4, 2) := by decide +kernel
theorem dX7_take_56 : decode cX7_take 56 = .ok (.aload_n 0, 1) := by decide +kernel
theorem dX7_take_57 : decode cX7_take 57 = .ok (.getfield 102, 3) := by decide +kernel
theorem dX7_take_60 : decode cX7_take 60 = .ok (.if_icmp .gt 76, 3) := by decide +kernel
theorem dX7_take_63 : decode cX7_take 63 = .ok (.iconst 0, 1) := by decide +kernel
theorem dX7_take_64 : decode cX7_take 64 = .ok (.istore 5, 2) := by decide +kernel
theorem dX7_take_66 : decode cX7_take 66 = .ok (.iload 5, 2) := by decide +kernel
theorem dX7_take_68 : decode cX7_take 68 = .ok (.aload_n 0, 1) := by decide +kernel
theorem dX7_take_69 : decode cX7_take 69 = .ok (.getfield 102, 3) := by decide +kernel
theorem dX7_take_72 : decode cX7_take 72 = .ok (.if_icmp .ge 34, 3) := by decide +kernel
theorem dX7_take_75 : decode cX7_take 75 = .ok (.aload_n 0, 1) := by decide +kernel
theorem dX7_take_76 : decode cX7_take 76 = .ok (.getfield 53, 3) := by decide +kernel
theorem dX7_take_79 : decode cX7_take 79 = .ok (.iload 5, 2) := by decide +kernel
theorem dX7_take_81 : decode cX7_take 81 = .ok (.iload 5, 2) := by decide +kernel
theorem dX7_take_83 : decode cX7_take 83 = .ok (.iload 4, 2) := by decide +kernel
theorem dX7_take_85 : decode cX7_take 85 = .ok (.if_icmp .ge 13, 3) := by decide +kernel
theorem dX7_take_88 : decode cX7_take 88 = .ok (.aload_n 0, 1) := by decide +kernel
theorem dX7_take_89 : decode cX7_take 89 = .ok (.getfield 96, 3) := by decide +kernel
theorem dX7_take_92 : decode cX7_take 92 = .ok (.iload 5, 2) := by decide +kernel
theorem dX7_take_94 : decode cX7_take 94 = .ok (.iaload, 1) := by decide +kernel
theorem dX7_take_95 : decode cX7_take 95 = .ok (.goto 4, 3) := by decide +kernel
theorem dX7_take_98 : decode cX7_take 98 = .ok (.iconst 1, 1) := by decide +kernel
theorem dX7_take_99 : decode cX7_take 99 = .ok (.iastore, 1) := by decide +kernel
theorem dX7_take_100 : decode cX7_take 100 = .ok (.iinc 5 1, 3) := by decide +kernel
theorem dX7_take_103 : decode cX7_take 103 = .ok (.goto (-37), 3) := by decide +kernel
theorem dX7_take_106 : decode cX7_take 106 = .ok (.aload_n 0, 1) := by decide +kernel
theorem dX7_take_107 : decode cX7_take 107 = .ok (.iload_n 1, 1) := by decide +kernel
theorem dX7_take_108 : decode cX7_take 108 = .ok (.invokevirtual 245, 3) := by decide +kernel
theorem dX7_take_111 : decode cX7_take 111 = .ok (.aload_n 0, 1) := by decide +kernel
theorem dX7_take_112 : decode cX7_take 112 = .ok (.getfield 236, 3) := by decide +kernel
theorem dX7_take_115 : decode cX7_take 115 = .ok (.iload_n 3, 1) := by decide +kernel
theorem dX7_take_116 : decode cX7_take 116 = .ok (.if_icmp .gt 6, 3) := by decide +kernel
theorem dX7_take_119 : decode cX7_take 119 = .ok (.goto 11, 3) := by decide +kernel
theorem dX7_take_122 : decode cX7_take 122 = .ok (.iload 4, 2) := by decide +kernel
theorem dX7_take_124 : decode cX7_take 124 = .ok (.istore_n 2, 1) := by decide +kernel
theorem dX7_take_125 : decode cX7_take 125 = .ok (.aload_n 0, 1) := by decide +kernel
theorem dX7_take_126 : decode cX7_take 126 = .ok (.getfield 236, 3) := by decide +kernel
theorem dX7_take_129 : decode cX7_take 129 = .ok (.istore_n 3, 1) := by decide +kernel
theorem dX7_take_130 : decode cX7_take 130 = .ok (.iinc 4 1, 3) := by decide +kernel
theorem dX7_take_133 : decode cX7_take 133 = .ok (.goto (-79), 3) := by decide +kernel
theorem dX7_take_136 : decode cX7_take 136 = .ok (.iconst 0, 1) := by decide +kernel
theorem dX7_take_137 : decode cX7_take 137 = .ok (.istore 4, 2) := by decide +kernel
theorem dX7_take_139 : decode cX7_take 139 = .ok (.iload 4, 2) := by decide +kernel
theorem dX7_take_141 : decode cX7_take 141 = .ok (.aload_n 0, 1) := by decide +kernel
theorem dX7_take_142 : decode cX7_take 142 = .ok (.getfield 102, 3) := by decide +kernel
theorem dX7_take_145 : decode cX7_take 145 = .ok (.if_icmp .ge 23, 3) := by decide +kernel
theorem dX7_take_148 : decode cX7_take 148 = .ok (.aload_n 0, 1) := by decide +kernel
theorem dX7_take_149 : decode cX7_take 149 = .ok (.getfield 53, 3) := by decide +kernel
theorem dX7_take_152 : decode cX7_take 152 = .ok (.iload 4, 2) := by decide +kernel
theorem dX7_take_154 : decode cX7_take 154 = .ok (.aload_n 0, 1) := by decide +kernel
theorem dX7_take_155 : decode cX7_take 155 = .ok (.getfield 96, 3) := by decide +kernel
theorem dX7_take_158 : decode cX7_take 158 = .ok (.iload 4, 2) := by decide +kernel
theorem dX7_take_160 : decode cX7_take 160 = .ok (.iaload, 1) := by decide +kernel
theorem dX7_take_161 : decode cX7_take 161 = .ok (.iastore, 1) := by decide +kernel
theorem dX7_take_162 : decode cX7_take 162 = .ok (.iinc 4 1, 3) := by decide +kernel
theorem dX7_take_165 : decode cX7_take 165 = .ok (.goto (-26), 3) := by decide +kernel
theorem dX7_take_168 : decode cX7_take 168 = .ok (.iload_n 2, 1) := by decide +kernel
theorem dX7_take_169 : decode cX7_take 169 = .ok (.ireturn, 1) := by decide +kernel
theorem dX7_satIfPaid_0 : decode cX7_satIfPaid 0 = .ok (.iconst 0, 1) := by decide +kernel
theorem dX7_satIfPaid_1 : decode cX7_satIfPaid 1 = .ok (.istore_n 3, 1) := by decide +kernel
theorem dX7_satIfPaid_2 : decode cX7_satIfPaid 2 = .ok (.iload_n 3, 1) := by decide +kernel
theorem dX7_satIfPaid_3 : decode cX7_satIfPaid 3 = .ok (.aload_n 0, 1) := by decide +kernel
theorem dX7_satIfPaid_4 : decode cX7_satIfPaid 4 = .ok (.getfield 102, 3) := by decide +kernel
theorem dX7_satIfPaid_7 : decode cX7_satIfPaid 7 = .ok (.if_icmp .ge 16, 3) := by decide +kernel
theorem dX7_satIfPaid_10 : decode cX7_satIfPaid 10 = .ok (.aload_n 0, 1) := by decide +kernel
theorem dX7_satIfPaid_11 : decode cX7_satIfPaid 11 = .ok (.getfield 38, 3) := by decide +kernel
theorem dX7_satIfPaid_14 : decode cX7_satIfPaid 14 = .ok (.iload_n 3, 1) := by decide +kernel
theorem dX7_satIfPaid_15 : decode cX7_satIfPaid 15 = .ok (.iload_n 2, 1) := by decide +kernel
theorem dX7_satIfPaid_16 : decode cX7_satIfPaid 16 = .ok (.iastore, 1) := by decide +kernel
theorem dX7_satIfPaid_17 : decode cX7_satIfPaid 17 = .ok (.iinc 3 1, 3) := by decide +kernel
theorem dX7_satIfPaid_20 : decode cX7_satIfPaid 20 = .ok (.goto (-18), 3) := by decide +kernel
theorem dX7_satIfPaid_23 : decode cX7_satIfPaid 23 = .ok (.aload_n 0, 1) := by decide +kernel
theorem dX7_satIfPaid_24 : decode cX7_satIfPaid 24 = .ok (.iload_n 1, 1) := by decide +kernel
theorem dX7_satIfPaid_25 : decode cX7_satIfPaid 25 = .ok (.invokevirtual 245, 3) := by decide +kernel
theorem dX7_satIfPaid_28 : decode cX7_satIfPaid 28 = .ok (.aload_n 0, 1) := by decide +kernel
theorem dX7_satIfPaid_29 : decode cX7_satIfPaid 29 = .ok (.getfield 218, 3) := by decide +kernel
theorem dX7_satIfPaid_32 : decode cX7_satIfPaid 32 = .ok (.ireturn, 1) := by decide +kernel
theorem dX7_price_0 : decode cX7_price 0 = .ok (.aload_n 0, 1) := by decide +kernel
theorem dX7_price_1 : decode cX7_price 1 = .ok (.iload_n 1, 1) := by decide +kernel
theorem dX7_price_2 : decode cX7_price 2 = .ok (.invokevirtual 242, 3) := by decide +kernel
theorem dX7_price_5 : decode cX7_price 5 = .ok (.ifCond .ne 14, 3) := by decide +kernel
theorem dX7_price_8 : decode cX7_price 8 = .ok (.aload_n 0, 1) := by decide +kernel
theorem dX7_price_9 : decode cX7_price 9 = .ok (.bipush (-6), 2) := by decide +kernel
theorem dX7_price_11 : decode cX7_price 11 = .ok (.invokevirtual 109, 3) := by decide +kernel
theorem dX7_price_14 : decode cX7_price 14 = .ok (.sipush 1000, 3) := by decide +kernel
theorem dX7_price_17 : decode cX7_price 17 = .ok (.isub, 1) := by decide +kernel
theorem dX7_price_18 : decode cX7_price 18 = .ok (.ireturn, 1) := by decide +kernel
theorem dX7_price_19 : decode cX7_price 19 = .ok (.iconst 0, 1) := by decide +kernel
theorem dX7_price_20 : decode cX7_price 20 = .ok (.istore_n 2, 1) := by decide +kernel
theorem dX7_price_21 : decode cX7_price 21 = .ok (.iload_n 2, 1) := by decide +kernel
theorem dX7_price_22 : decode cX7_price 22 = .ok (.aload_n 0, 1) := by decide +kernel
theorem dX7_price_23 : decode cX7_price 23 = .ok (.getfield 102, 3) := by decide +kernel
theorem dX7_price_26 : decode cX7_price 26 = .ok (.if_icmp .ge 21, 3) := by decide +kernel
theorem dX7_price_29 : decode cX7_price 29 = .ok (.aload_n 0, 1) := by decide +kernel
theorem dX7_price_30 : decode cX7_price 30 = .ok (.getfield 96, 3) := by decide +kernel
theorem dX7_price_33 : decode cX7_price 33 = .ok (.iload_n 2, 1) := by decide +kernel
theorem dX7_price_34 : decode cX7_price 34 = .ok (.aload_n 0, 1) := by decide +kernel
theorem dX7_price_35 : decode cX7_price 35 = .ok (.getfield 38, 3) := by decide +kernel
theorem dX7_price_38 : decode cX7_price 38 = .ok (.iload_n 2, 1) := by decide +kernel
theorem dX7_price_39 : decode cX7_price 39 = .ok (.iaload, 1) := by decide +kernel
theorem dX7_price_40 : decode cX7_price 40 = .ok (.iastore, 1) := by decide +kernel
theorem dX7_price_41 : decode cX7_price 41 = .ok (.iinc 2 1, 3) := by decide +kernel
theorem dX7_price_44 : decode cX7_price 44 = .ok (.goto (-23), 3) := by decide +kernel
theorem dX7_price_47 : decode cX7_price 47 = .ok (.aload_n 0, 1) := by decide +kernel
theorem dX7_price_48 : decode cX7_price 48 = .ok (.iload_n 1, 1) := by decide +kernel
theorem dX7_price_49 : decode cX7_price 49 = .ok (.iconst 1, 1) := by decide +kernel
theorem dX7_price_50 : decode cX7_price 50 = .ok (.invokevirtual 251, 3) := by decide +kernel
theorem dX7_price_53 : decode cX7_price 53 = .ok (.aload_n 0, 1) := by decide +kernel
theorem dX7_price_54 : decode cX7_price 54 = .ok (.iload_n 1, 1) := by decide +kernel
theorem dX7_price_55 : decode cX7_price 55 = .ok (.iconst 0, 1) := by decide +kernel
theorem dX7_price_56 : decode cX7_price 56 = .ok (.invokevirtual 251, 3) := by decide +kernel
theorem dX7_price_59 : decode cX7_price 59 = .ok (.isub, 1) := by decide +kernel
theorem dX7_price_60 : decode cX7_price 60 = .ok (.istore_n 2, 1) := by decide +kernel
theorem dX7_price_61 : decode cX7_price 61 = .ok (.iconst 0, 1) := by decide +kernel
theorem dX7_price_62 : decode cX7_price 62 = .ok (.istore_n 3, 1) := by decide +kernel
theorem dX7_price_63 : decode cX7_price 63 = .ok (.iload_n 3, 1) := by decide +kernel
theorem dX7_price_64 : decode cX7_price 64 = .ok (.aload_n 0, 1) := by decide +kernel
theorem dX7_price_65 : decode cX7_price 65 = .ok (.getfield 102, 3) := by decide +kernel
theorem dX7_price_68 : decode cX7_price 68 = .ok (.if_icmp .ge 21, 3) := by decide +kernel
theorem dX7_price_71 : decode cX7_price 71 = .ok (.aload_n 0, 1) := by decide +kernel
theorem dX7_price_72 : decode cX7_price 72 = .ok (.getfield 38, 3) := by decide +kernel
theorem dX7_price_75 : decode cX7_price 75 = .ok (.iload_n 3, 1) := by decide +kernel
theorem dX7_price_76 : decode cX7_price 76 = .ok (.aload_n 0, 1) := by decide +kernel
theorem dX7_price_77 : decode cX7_price 77 = .ok (.getfield 96, 3) := by decide +kernel
theorem dX7_price_80 : decode cX7_price 80 = .ok (.iload_n 3, 1) := by decide +kernel
theorem dX7_price_81 : decode cX7_price 81 = .ok (.iaload, 1) := by decide +kernel
theorem dX7_price_82 : decode cX7_price 82 = .ok (.iastore, 1) := by decide +kernel
theorem dX7_price_83 : decode cX7_price 83 = .ok (.iinc 3 1, 3) := by decide +kernel
theorem dX7_price_86 : decode cX7_price 86 = .ok (.goto (-23), 3) := by decide +kernel
theorem dX7_price_89 : decode cX7_price 89 = .ok (.iload_n 2, 1) := by decide +kernel
theorem dX7_price_90 : decode cX7_price 90 = .ok (.ireturn, 1) := by decide +kernel
theorem dX7_holdsBack_0 : decode cX7_holdsBack 0 = .ok (.aload_n 0, 1) := by decide +kernel
theorem dX7_holdsBack_1 : decode cX7_holdsBack 1 = .ok (.iconst 0, 1) := by decide +kernel
theorem dX7_holdsBack_2 : decode cX7_holdsBack 2 = .ok (.invokevirtual 214, 3) := by decide +kernel
theorem dX7_holdsBack_5 : decode cX7_holdsBack 5 = .ok (.aload_n 0, 1) := by decide +kernel
theorem dX7_holdsBack_6 : decode cX7_holdsBack 6 = .ok (.aload_n 0, 1) := by decide +kernel
theorem dX7_holdsBack_7 : decode cX7_holdsBack 7 = .ok (.getfield 199, 3) := by decide +kernel
theorem dX7_holdsBack_10 : decode cX7_holdsBack 10 = .ok (.invokevirtual 248, 3) := by decide +kernel
theorem dX7_holdsBack_13 : decode cX7_holdsBack 13 = .ok (.aload_n 0, 1) := by decide +kernel
theorem dX7_holdsBack_14 : decode cX7_holdsBack 14 = .ok (.getfield 199, 3) := by decide +kernel
theorem dX7_holdsBack_17 : decode cX7_holdsBack 17 = .ok (.iload_n 1, 1) := by decide +kernel
theorem dX7_holdsBack_18 : decode cX7_holdsBack 18 = .ok (.ishr, 1) := by decide +kernel
theorem dX7_holdsBack_19 : decode cX7_holdsBack 19 = .ok (.iconst 1, 1) := by decide +kernel
theorem dX7_holdsBack_20 : decode cX7_holdsBack 20 = .ok (.iand, 1) := by decide +kernel
theorem dX7_holdsBack_21 : decode cX7_holdsBack 21 = .ok (.isub, 1) := by decide +kernel
theorem dX7_holdsBack_22 : decode cX7_holdsBack 22 = .ok (.istore_n 2, 1) := by decide +kernel
theorem dX7_holdsBack_23 : decode cX7_holdsBack 23 = .ok (.aload_n 0, 1) := by decide +kernel
theorem dX7_holdsBack_24 : decode cX7_holdsBack 24 = .ok (.getfield 53, 3) := by decide +kernel
theorem dX7_holdsBack_27 : decode cX7_holdsBack 27 = .ok (.iload_n 1, 1) := by decide +kernel
theorem dX7_holdsBack_28 : decode cX7_holdsBack 28 = .ok (.iconst 1, 1) := by decide +kernel
theorem dX7_holdsBack_29 : decode cX7_holdsBack 29 = .ok (.iastore, 1) := by decide +kernel
theorem dX7_holdsBack_30 : decode cX7_holdsBack 30 = .ok (.aload_n 0, 1) := by decide +kernel
theorem dX7_holdsBack_31 : decode cX7_holdsBack 31 = .ok (.iconst 0, 1) := by decide +kernel
theorem dX7_holdsBack_32 : decode cX7_holdsBack 32 = .ok (.invokevirtual 214, 3) := by decide +kernel
theorem dX7_holdsBack_35 : decode cX7_holdsBack 35 = .ok (.aload_n 0, 1) := by decide +kernel
theorem dX7_holdsBack_36 : decode cX7_holdsBack 36 = .ok (.getfield 53, 3) := by decide +kernel
theorem dX7_holdsBack_39 : decode cX7_holdsBack 39 = .ok (.iload_n 1, 1) := by decide +kernel
theorem dX7_holdsBack_40 : decode cX7_holdsBack 40 = .ok (.iconst 0, 1) := by decide +kernel
theorem dX7_holdsBack_41 : decode cX7_holdsBack 41 = .ok (.iastore, 1) := by decide +kernel
theorem dX7_holdsBack_42 : decode cX7_holdsBack 42 = .ok (.iload_n 2, 1) := by decide +kernel
theorem dX7_holdsBack_43 : decode cX7_holdsBack 43 = .ok (.aload_n 0, 1) := by decide +kernel
theorem dX7_holdsBack_44 : decode cX7_holdsBack 44 = .ok (.aload_n 0, 1) := by decide +kernel
theorem dX7_holdsBack_45 : decode cX7_holdsBack 45 = .ok (.getfield 199, 3) := by decide +kernel
theorem dX7_holdsBack_48 : decode cX7_holdsBack 48 = .ok (.invokevirtual 248, 3) := by decide +kernel
theorem dX7_holdsBack_51 : decode cX7_holdsBack 51 = .ok (.isub, 1) := by decide +kernel
theorem dX7_holdsBack_52 : decode cX7_holdsBack 52 = .ok (.ireturn, 1) := by decide +kernel
theorem dX7_keeps_0 : decode cX7_keeps 0 = .ok (.aload_n 0, 1) := by decide +kernel
theorem dX7_keeps_1 : decode cX7_keeps 1 = .ok (.iload_n 1, 1) := by decide +kernel
theorem dX7_keeps_2 : decode cX7_keeps 2 = .ok (.invokevirtual 113, 3) := by decide +kernel
theorem dX7_keeps_5 : decode cX7_keeps 5 = .ok (.ifCond .ne 9, 3) := by decide +kernel
theorem dX7_keeps_8 : decode cX7_keeps 8 = .ok (.aload_n 0, 1) := by decide +kernel
theorem dX7_keeps_9 : decode cX7_keeps 9 = .ok (.iconst (-1), 1) := by decide +kernel
theorem dX7_keeps_10 : decode cX7_keeps 10 = .ok (.invokevirtual 109, 3) := by decide +kernel
theorem dX7_keeps_13 : decode cX7_keeps 13 = .ok (.ireturn, 1) := by decide +kernel
theorem dX7_keeps_14 : decode cX7_keeps 14 = .ok (.aload_n 0, 1) := by decide +kernel
theorem dX7_keeps_15 : decode cX7_keeps 15 = .ok (.getfield 53, 3) := by decide +kernel
theorem dX7_keeps_18 : decode cX7_keeps 18 = .ok (.iload_n 1, 1) := by decide +kernel
theorem dX7_keeps_19 : decode cX7_keeps 19 = .ok (.iaload, 1) := by decide +kernel
theorem dX7_keeps_20 : decode cX7_keeps 20 = .ok (.iconst 1, 1) := by decide +kernel
theorem dX7_keeps_21 : decode cX7_keeps 21 = .ok (.if_icmp .ne 12, 3) := by decide +kernel
theorem dX7_keeps_24 : decode cX7_keeps 24 = .ok (.aload_n 0, 1) := by decide +kernel
theorem dX7_keeps_25 : decode cX7_keeps 25 = .ok (.bipush (-6), 2) := by decide +kernel
theorem dX7_keeps_27 : decode cX7_keeps 27 = .ok (.invokevirtual 109, 3) := by decide +kernel
theorem dX7_keeps_30 : decode cX7_keeps 30 = .ok (.goto 8, 3) := by decide +kernel
theorem dX7_keeps_33 : decode cX7_keeps 33 = .ok (.aload_n 0, 1) := by decide +kernel
theorem dX7_keeps_34 : decode cX7_keeps 34 = .ok (.iload_n 1, 1) := by decide +kernel
theorem dX7_keeps_35 : decode cX7_keeps 35 = .ok (.invokevirtual 255, 3) := by decide +kernel
theorem dX7_keeps_38 : decode cX7_keeps 38 = .ok (.ireturn, 1) := by decide +kernel
theorem dX7_keep_0 : decode cX7_keep 0 = .ok (.iconst (-1), 1) := by decide +kernel
theorem dX7_keep_1 : decode cX7_keep 1 = .ok (.istore_n 1, 1) := by decide +kernel
theorem dX7_keep_2 : decode cX7_keep 2 = .ok (.iconst (-1), 1) := by decide +kernel
theorem dX7_keep_3 : decode cX7_keep 3 = .ok (.istore_n 2, 1) := by decide +kernel
theorem dX7_keep_4 : decode cX7_keep 4 = .ok (.iconst 0, 1) := by decide +kernel
theorem dX7_keep_5 : decode cX7_keep 5 = .ok (.istore_n 3, 1) := by decide +kernel
theorem dX7_keep_6 : decode cX7_keep 6 = .ok (.iload_n 3, 1) := by decide +kernel
theorem dX7_keep_7 : decode cX7_keep 7 = .ok (.aload_n 0, 1) := by decide +kernel
theorem dX7_keep_8 : decode cX7_keep 8 = .ok (.getfield 102, 3) := by decide +kernel
theorem dX7_keep_11 : decode cX7_keep 11 = .ok (.if_icmp .ge 44, 3) := by decide +kernel
theorem dX7_keep_14 : decode cX7_keep 14 = .ok (.aload_n 0, 1) := by decide +kernel
theorem dX7_keep_15 : decode cX7_keep 15 = .ok (.getfield 53, 3) := by decide +kernel
theorem dX7_keep_18 : decode cX7_keep 18 = .ok (.iload_n 3, 1) := by decide +kernel
theorem dX7_keep_19 : decode cX7_keep 19 = .ok (.iaload, 1) := by decide +kernel
theorem dX7_keep_20 : decode cX7_keep 20 = .ok (.iconst 1, 1) := by decide +kernel
theorem dX7_keep_21 : decode cX7_keep 21 = .ok (.if_icmp .ne 7, 3) := by decide +kernel
theorem dX7_keep_24 : decode cX7_keep 24 = .ok (.iconst (-1), 1) := by decide +kernel
theorem dX7_keep_25 : decode cX7_keep 25 = .ok (.goto 8, 3) := by decide +kernel
theorem dX7_keep_28 : decode cX7_keep 28 = .ok (.aload_n 0, 1) := by decide +kernel
theorem dX7_keep_29 : decode cX7_keep 29 = .ok (.iload_n 3, 1) := by decide +kernel
theorem dX7_keep_30 : decode cX7_keep 30 = .ok (.invokevirtual 255, 3) := by decide +kernel
theorem dX7_keep_33 : decode cX7_keep 33 = .ok (.istore 4, 2) := by decide +kernel
theorem dX7_keep_35 : decode cX7_keep 35 = .ok (.iload 4, 2) := by decide +kernel
theorem dX7_keep_37 : decode cX7_keep 37 = .ok (.iload_n 2, 1) := by decide +kernel
theorem dX7_keep_38 : decode cX7_keep 38 = .ok (.if_icmp .gt 6, 3) := by decide +kernel
theorem dX7_keep_41 : decode cX7_keep 41 = .ok (.goto 8, 3) := by decide +kernel
theorem dX7_keep_44 : decode cX7_keep 44 = .ok (.iload_n 3, 1) := by decide +kernel
theorem dX7_keep_45 : decode cX7_keep 45 = .ok (.istore_n 1, 1) := by decide +kernel
theorem dX7_keep_46 : decode cX7_keep 46 = .ok (.iload 4, 2) := by decide +kernel
theorem dX7_keep_48 : decode cX7_keep 48 = .ok (.istore_n 2, 1) := by decide +kernel
theorem dX7_keep_49 : decode cX7_keep 49 = .ok (.iinc 3 1, 3) := by decide +kernel
theorem dX7_keep_52 : decode cX7_keep 52 = .ok (.goto (-46), 3) := by decide +kernel
theorem dX7_keep_55 : decode cX7_keep 55 = .ok (.iload_n 1, 1) := by decide +kernel
theorem dX7_keep_56 : decode cX7_keep 56 = .ok (.ireturn, 1) := by decide +kernel
theorem dX7_pairs_0 : decode cX7_pairs 0 = .ok (.iconst 0, 1) := by decide +kernel
theorem dX7_pairs_1 : decode cX7_pairs 1 = .ok (.istore_n 1, 1) := by decide +kernel
theorem dX7_pairs_2 : decode cX7_pairs 2 = .ok (.iconst 0, 1) := by decide +kernel
theorem dX7_pairs_3 : decode cX7_pairs 3 = .ok (.istore_n 2, 1) := by decide +kernel
theorem dX7_pairs_4 : decode cX7_pairs 4 = .ok (.iload_n 2, 1) := by decide +kernel
theorem dX7_pairs_5 : decode cX7_pairs 5 = .ok (.aload_n 0, 1) := by decide +kernel
theorem dX7_pairs_6 : decode cX7_pairs 6 = .ok (.getfield 102, 3) := by decide +kernel
theorem dX7_pairs_9 : decode cX7_pairs 9 = .ok (.if_icmp .ge 37, 3) := by decide +kernel
theorem dX7_pairs_12 : decode cX7_pairs 12 = .ok (.aload_n 0, 1) := by decide +kernel
theorem dX7_pairs_13 : decode cX7_pairs 13 = .ok (.getfield 41, 3) := by decide +kernel
theorem dX7_pairs_16 : decode cX7_pairs 16 = .ok (.iload_n 2, 1) := by decide +kernel
theorem dX7_pairs_17 : decode cX7_pairs 17 = .ok (.iaload, 1) := by decide +kernel
theorem dX7_pairs_18 : decode cX7_pairs 18 = .ok (.iload_n 2, 1) := by decide +kernel
theorem dX7_pairs_19 : decode cX7_pairs 19 = .ok (.if_icmp .le 21, 3) := by decide +kernel
theorem dX7_pairs_22 : decode cX7_pairs 22 = .ok (.aload_n 0, 1) := by decide +kernel
theorem dX7_pairs_23 : decode cX7_pairs 23 = .ok (.getfield 41, 3) := by decide +kernel
theorem dX7_pairs_26 : decode cX7_pairs 26 = .ok (.aload_n 0, 1) := by decide +kernel
theorem dX7_pairs_27 : decode cX7_pairs 27 = .ok (.getfield 41, 3) := by decide +kernel
theorem dX7_pairs_30 : decode cX7_pairs 30 = .ok (.iload_n 2, 1) := by decide +kernel
theorem dX7_pairs_31 : decode cX7_pairs 31 = .ok (.iaload, 1) := by decide +kernel
theorem dX7_pairs_32 : decode cX7_pairs 32 = .ok (.iaload, 1) := by decide +kernel
theorem dX7_pairs_33 : decode cX7_pairs 33 = .ok (.iload_n 2, 1) := by decide +kernel
theorem dX7_pairs_34 : decode cX7_pairs 34 = .ok (.if_icmp .ne 6, 3) := by decide +kernel
theorem dX7_pairs_37 : decode cX7_pairs 37 = .ok (.iinc 1 1, 3) := by decide +kernel
theorem dX7_pairs_40 : decode cX7_pairs 40 = .ok (.iinc 2 1, 3) := by decide +kernel
theorem dX7_pairs_43 : decode cX7_pairs 43 = .ok (.goto (-39), 3) := by decide +kernel
theorem dX7_pairs_46 : decode cX7_pairs 46 = .ok (.iload_n 1, 1) := by decide +kernel
theorem dX7_pairs_47 : decode cX7_pairs 47 = .ok (.ireturn, 1) := by decide +kernel
theorem dX7_chain_0 : decode cX7_chain 0 = .ok (.aload_n 0, 1) := by decide +kernel
theorem dX7_chain_1 : decode cX7_chain 1 = .ok (.iload_n 1, 1) := by decide +kernel
theorem dX7_chain_2 : decode cX7_chain 2 = .ok (.invokevirtual 113, 3) := by decide +kernel
theorem dX7_chain_5 : decode cX7_chain 5 = .ok (.ifCond .ne 9, 3) := by decide +kernel
theorem dX7_chain_8 : decode cX7_chain 8 = .ok (.aload_n 0, 1) := by decide +kernel
theorem dX7_chain_9 : decode cX7_chain 9 = .ok (.iconst (-1), 1) := by decide +kernel
theorem dX7_chain_10 : decode cX7_chain 10 = .ok (.invokevirtual 109, 3) := by decide +kernel
theorem dX7_chain_13 : decode cX7_chain 13 = .ok (.ireturn, 1) := by decide +kernel
theorem dX7_chain_14 : decode cX7_chain 14 = .ok (.iconst 1, 1) := by decide +kernel
theorem dX7_chain_15 : decode cX7_chain 15 = .ok (.iload_n 1, 1) := by decide +kernel
theorem dX7_chain_16 : decode cX7_chain 16 = .ok (.ishl, 1) := by decide +kernel
theorem dX7_chain_17 : decode cX7_chain 17 = .ok (.istore_n 2, 1) := by decide +kernel
theorem dX7_chain_18 : decode cX7_chain 18 = .ok (.iconst 0, 1) := by decide +kernel
theorem dX7_chain_19 : decode cX7_chain 19 = .ok (.istore_n 3, 1) := by decide +kernel
theorem dX7_chain_20 : decode cX7_chain 20 = .ok (.aload_n 0, 1) := by decide +kernel
theorem dX7_chain_21 : decode cX7_chain 21 = .ok (.getfield 41, 3) := by decide +kernel
theorem dX7_chain_24 : decode cX7_chain 24 = .ok (.iload_n 1, 1) := by decide +kernel
theorem dX7_chain_25 : decode cX7_chain 25 = .ok (.iaload, 1) := by decide +kernel
theorem dX7_chain_26 : decode cX7_chain 26 = .ok (.istore 4, 2) := by decide +kernel
theorem dX7_chain_28 : decode cX7_chain 28 = .ok (.iload 4, 2) := by decide +kernel
theorem dX7_chain_30 : decode cX7_chain 30 = .ok (.iconst (-1), 1) := by decide +kernel
theorem dX7_chain_31 : decode cX7_chain 31 = .ok (.if_icmp .eq 34, 3) := by decide +kernel
theorem dX7_chain_34 : decode cX7_chain 34 = .ok (.iload_n 2, 1) := by decide +kernel
theorem dX7_chain_35 : decode cX7_chain 35 = .ok (.iload 4, 2) := by decide +kernel
theorem dX7_chain_37 : decode cX7_chain 37 = .ok (.ishr, 1) := by decide +kernel
theorem dX7_chain_38 : decode cX7_chain 38 = .ok (.iconst 1, 1) := by decide +kernel
theorem dX7_chain_39 : decode cX7_chain 39 = .ok (.iand, 1) := by decide +kernel
theorem dX7_chain_40 : decode cX7_chain 40 = .ok (.ifCond .ne 25, 3) := by decide +kernel
theorem dX7_chain_43 : decode cX7_chain 43 = .ok (.iload_n 2, 1) := by decide +kernel
theorem dX7_chain_44 : decode cX7_chain 44 = .ok (.iconst 1, 1) := by decide +kernel
theorem dX7_chain_45 : decode cX7_chain 45 = .ok (.iload 4, 2) := by decide +kernel
theorem dX7_chain_47 : decode cX7_chain 47 = .ok (.ishl, 1) := by decide +kernel
theorem dX7_chain_48 : decode cX7_chain 48 = .ok (.iadd, 1) := by decide +kernel
theorem dX7_chain_49 : decode cX7_chain 49 = .ok (.istore_n 2, 1) := by decide +kernel
theorem dX7_chain_50 : decode cX7_chain 50 = .ok (.iinc 3 1, 3) := by decide +kernel
theorem dX7_chain_53 : decode cX7_chain 53 = .ok (.aload_n 0, 1) := by decide +kernel
theorem dX7_chain_54 : decode cX7_chain 54 = .ok (.getfield 41, 3) := by decide +kernel
theorem dX7_chain_57 : decode cX7_chain 57 = .ok (.iload 4, 2) := by decide +kernel
theorem dX7_chain_59 : decode cX7_chain 59 = .ok (.iaload, 1) := by decide +kernel
theorem dX7_chain_60 : decode cX7_chain 60 = .ok (.istore 4, 2) := by decide +kernel
theorem dX7_chain_62 : decode cX7_chain 62 = .ok (.goto (-34), 3) := by decide +kernel
theorem dX7_chain_65 : decode cX7_chain 65 = .ok (.iload_n 3, 1) := by decide +kernel
theorem dX7_chain_66 : decode cX7_chain 66 = .ok (.ireturn, 1) := by decide +kernel
theorem dX7_wrongIn_0 : decode cX7_wrongIn 0 = .ok (.iconst (-1), 1) := by decide +kernel
theorem dX7_wrongIn_1 : decode cX7_wrongIn 1 = .ok (.istore_n 3, 1) := by decide +kernel
theorem dX7_wrongIn_2 : decode cX7_wrongIn 2 = .ok (.aload_n 0, 1) := by decide +kernel
theorem dX7_wrongIn_3 : decode cX7_wrongIn 3 = .ok (.aload_n 0, 1) := by decide +kernel
theorem dX7_wrongIn_4 : decode cX7_wrongIn 4 = .ok (.getfield 93, 3) := by decide +kernel
theorem dX7_wrongIn_7 : decode cX7_wrongIn 7 = .ok (.iconst 0, 1) := by decide +kernel
theorem dX7_wrongIn_8 : decode cX7_wrongIn 8 = .ok (.invokevirtual 189, 3) := by decide +kernel
theorem dX7_wrongIn_11 : decode cX7_wrongIn 11 = .ok (.iconst 0, 1) := by decide +kernel
theorem dX7_wrongIn_12 : decode cX7_wrongIn 12 = .ok (.istore 4, 2) := by decide +kernel
theorem dX7_wrongIn_14 : decode cX7_wrongIn 14 = .ok (.iload 4, 2) := by decide +kernel
theorem dX7_wrongIn_16 : decode cX7_wrongIn 16 = .ok (.iload_n 2, 1) := by decide +kernel
theorem dX7_wrongIn_17 : decode cX7_wrongIn 17 = .ok (.if_icmp .ge 35, 3) := by decide +kernel
theorem dX7_wrongIn_20 : decode cX7_wrongIn 20 = .ok (.iload_n 3, 1) := by decide +kernel
theorem dX7_wrongIn_21 : decode cX7_wrongIn 21 = .ok (.iconst (-1), 1) := by decide +kernel
theorem dX7_wrongIn_22 : decode cX7_wrongIn 22 = .ok (.if_icmp .ne 30, 3) := by decide +kernel
theorem dX7_wrongIn_25 : decode cX7_wrongIn 25 = .ok (.aload_n 0, 1) := by decide +kernel
theorem dX7_wrongIn_26 : decode cX7_wrongIn 26 = .ok (.invokevirtual 230, 3) := by decide +kernel
theorem dX7_wrongIn_29 : decode cX7_wrongIn 29 = .ok (.aload_n 0, 1) := by decide +kernel
theorem dX7_wrongIn_30 : decode cX7_wrongIn 30 = .ok (.getfield 205, 3) := by decide +kernel
theorem dX7_wrongIn_33 : decode cX7_wrongIn 33 = .ok (.aload_n 0, 1) := by decide +kernel
theorem dX7_wrongIn_34 : decode cX7_wrongIn 34 = .ok (.iload_n 1, 1) := by decide +kernel
theorem dX7_wrongIn_35 : decode cX7_wrongIn 35 = .ok (.iload 4, 2) := by decide +kernel
theorem dX7_wrongIn_37 : decode cX7_wrongIn 37 = .ok (.invokevirtual 258, 3) := by decide +kernel
theorem dX7_wrongIn_40 : decode cX7_wrongIn 40 = .ok (.if_icmp .eq 6, 3) := by decide +kernel
theorem dX7_wrongIn_43 : decode cX7_wrongIn 43 = .ok (.iload 4, 2) := by decide +kernel
theorem dX7_wrongIn_45 : decode cX7_wrongIn 45 = .ok (.istore_n 3, 1) := by decide +kernel
theorem dX7_wrongIn_46 : decode cX7_wrongIn 46 = .ok (.iinc 4 1, 3) := by decide +kernel
theorem dX7_wrongIn_49 : decode cX7_wrongIn 49 = .ok (.goto (-35), 3) := by decide +kernel
theorem dX7_wrongIn_52 : decode cX7_wrongIn 52 = .ok (.aload_n 0, 1) := by decide +kernel
theorem dX7_wrongIn_53 : decode cX7_wrongIn 53 = .ok (.aload_n 0, 1) := by decide +kernel
theorem dX7_wrongIn_54 : decode cX7_wrongIn 54 = .ok (.getfield 93, 3) := by decide +kernel
theorem dX7_wrongIn_57 : decode cX7_wrongIn 57 = .ok (.iconst 1, 1) := by decide +kernel
theorem dX7_wrongIn_58 : decode cX7_wrongIn 58 = .ok (.invokevirtual 189, 3) := by decide +kernel
theorem dX7_wrongIn_61 : decode cX7_wrongIn 61 = .ok (.iload_n 3, 1) := by decide +kernel
theorem dX7_wrongIn_62 : decode cX7_wrongIn 62 = .ok (.ireturn, 1) := by decide +kernel
theorem dX7_barsOf_0 : decode cX7_barsOf 0 = .ok (.aload_n 0, 1) := by decide +kernel
theorem dX7_barsOf_1 : decode cX7_barsOf 1 = .ok (.iload_n 1, 1) := by decide +kernel
theorem dX7_barsOf_2 : decode cX7_barsOf 2 = .ok (.invokevirtual 186, 3) := by decide +kernel
theorem dX7_barsOf_5 : decode cX7_barsOf 5 = .ok (.istore_n 3, 1) := by decide +kernel
theorem dX7_barsOf_6 : decode cX7_barsOf 6 = .ok (.iload_n 3, 1) := by decide +kernel
theorem dX7_barsOf_7 : decode cX7_barsOf 7 = .ok (.ifCond .eq 7, 3) := by decide +kernel
theorem dX7_barsOf_10 : decode cX7_barsOf 10 = .ok (.iload_n 3, 1) := by decide +kernel
theorem dX7_barsOf_11 : decode cX7_barsOf 11 = .ok (.goto 39, 3) := by decide +kernel
theorem dX7_barsOf_14 : decode cX7_barsOf 14 = .ok (.iload_n 2, 1) := by decide +kernel
theorem dX7_barsOf_15 : decode cX7_barsOf 15 = .ok (.ifCond .ge 8, 3) := by decide +kernel
theorem dX7_barsOf_18 : decode cX7_barsOf 18 = .ok (.bipush (-4), 2) := by decide +kernel
theorem dX7_barsOf_20 : decode cX7_barsOf 20 = .ok (.goto 30, 3) := by decide +kernel
theorem dX7_barsOf_23 : decode cX7_barsOf 23 = .ok (.iload_n 2, 1) := by decide +kernel
theorem dX7_barsOf_24 : decode cX7_barsOf 24 = .ok (.aload_n 0, 1) := by decide +kernel
theorem dX7_barsOf_25 : decode cX7_barsOf 25 = .ok (.getfield 62, 3) := by decide +kernel
theorem dX7_barsOf_28 : decode cX7_barsOf 28 = .ok (.iload_n 1, 1) := by decide +kernel
theorem dX7_barsOf_29 : decode cX7_barsOf 29 = .ok (.iaload, 1) := by decide +kernel
theorem dX7_barsOf_30 : decode cX7_barsOf 30 = .ok (.if_icmp .le 8, 3) := by decide +kernel
theorem dX7_barsOf_33 : decode cX7_barsOf 33 = .ok (.bipush (-5), 2) := by decide +kernel
theorem dX7_barsOf_35 : decode cX7_barsOf 35 = .ok (.goto 15, 3) := by decide +kernel
theorem dX7_barsOf_38 : decode cX7_barsOf 38 = .ok (.iload_n 2, 1) := by decide +kernel
theorem dX7_barsOf_39 : decode cX7_barsOf 39 = .ok (.bipush 24, 2) := by decide +kernel
theorem dX7_barsOf_41 : decode cX7_barsOf 41 = .ok (.if_icmp .le 8, 3) := by decide +kernel
theorem dX7_barsOf_44 : decode cX7_barsOf 44 = .ok (.bipush (-6), 2) := by decide +kernel
theorem dX7_barsOf_46 : decode cX7_barsOf 46 = .ok (.goto 4, 3) := by decide +kernel
theorem dX7_barsOf_49 : decode cX7_barsOf 49 = .ok (.iconst 0, 1) := by decide +kernel
theorem dX7_barsOf_50 : decode cX7_barsOf 50 = .ok (.ireturn, 1) := by decide +kernel
theorem dX7_friends_0 : decode cX7_friends 0 = .ok (.aload_n 0, 1) := by decide +kernel
theorem dX7_friends_1 : decode cX7_friends 1 = .ok (.iload_n 3, 1) := by decide +kernel
theorem dX7_friends_2 : decode cX7_friends 2 = .ok (.invokevirtual 113, 3) := by decide +kernel
theorem dX7_friends_5 : decode cX7_friends 5 = .ok (.ifCond .eq 12, 3) := by decide +kernel
theorem dX7_friends_8 : decode cX7_friends 8 = .ok (.aload_n 0, 1) := by decide +kernel
theorem dX7_friends_9 : decode cX7_friends 9 = .ok (.iload_n 1, 1) := by decide +kernel
theorem dX7_friends_10 : decode cX7_friends 10 = .ok (.iload_n 2, 1) := by decide +kernel
theorem dX7_friends_11 : decode cX7_friends 11 = .ok (.invokevirtual 261, 3) := by decide +kernel
theorem dX7_friends_14 : decode cX7_friends 14 = .ok (.goto 4, 3) := by decide +kernel
theorem dX7_friends_17 : decode cX7_friends 17 = .ok (.iconst (-1), 1) := by decide +kernel
theorem dX7_friends_18 : decode cX7_friends 18 = .ok (.istore 4, 2) := by decide +kernel
theorem dX7_friends_20 : decode cX7_friends 20 = .ok (.iload 4, 2) := by decide +kernel
theorem dX7_friends_22 : decode cX7_friends 22 = .ok (.ifCond .eq 10, 3) := by decide +kernel
theorem dX7_friends_25 : decode cX7_friends 25 = .ok (.aload_n 0, 1) := by decide +kernel
theorem dX7_friends_26 : decode cX7_friends 26 = .ok (.iload 4, 2) := by decide +kernel
theorem dX7_friends_28 : decode cX7_friends 28 = .ok (.invokevirtual 109, 3) := by decide +kernel
theorem dX7_friends_31 : decode cX7_friends 31 = .ok (.ireturn, 1) := by decide +kernel
theorem dX7_friends_32 : decode cX7_friends 32 = .ok (.aload_n 0, 1) := by decide +kernel
theorem dX7_friends_33 : decode cX7_friends 33 = .ok (.getfield 41, 3) := by decide +kernel
theorem dX7_friends_36 : decode cX7_friends 36 = .ok (.iload_n 3, 1) := by decide +kernel
theorem dX7_friends_37 : decode cX7_friends 37 = .ok (.iaload, 1) := by decide +kernel
theorem dX7_friends_38 : decode cX7_friends 38 = .ok (.istore 5, 2) := by decide +kernel
theorem dX7_friends_40 : decode cX7_friends 40 = .ok (.iconst 0, 1) := by decide +kernel
theorem dX7_friends_41 : decode cX7_friends 41 = .ok (.istore 6, 2) := by decide +kernel
theorem dX7_friends_43 : decode cX7_friends 43 = .ok (.iconst 0, 1) := by decide +kernel
theorem dX7_friends_44 : decode cX7_friends 44 = .ok (.istore 7, 2) := by decide +kernel
theorem dX7_friends_46 : decode cX7_friends 46 = .ok (.iload 7, 2) := by decide +kernel
theorem dX7_friends_48 : decode cX7_friends 48 = .ok (.aload_n 0, 1) := by decide +kernel
theorem dX7_friends_49 : decode cX7_friends 49 = .ok (.getfield 102, 3) := by decide +kernel
theorem dX7_friends_52 : decode cX7_friends 52 = .ok (.if_icmp .ge 45, 3) := by decide +kernel
theorem dX7_friends_55 : decode cX7_friends 55 = .ok (.iload 7, 2) := by decide +kernel
theorem dX7_friends_57 : decode cX7_friends 57 = .ok (.iload_n 3, 1) := by decide +kernel
theorem dX7_friends_58 : decode cX7_friends 58 = .ok (.if_icmp .ne 6, 3) := by decide +kernel
theorem dX7_friends_61 : decode cX7_friends 61 = .ok (.goto 30, 3) := by decide +kernel
theorem dX7_friends_64 : decode cX7_friends 64 = .ok (.aload_n 0, 1) := by decide +kernel
theorem dX7_friends_65 : decode cX7_friends 65 = .ok (.getfield 41, 3) := by decide +kernel
theorem dX7_friends_68 : decode cX7_friends 68 = .ok (.iload_n 3, 1) := by decide +kernel
theorem dX7_friends_69 : decode cX7_friends 69 = .ok (.iload 7, 2) := by decide +kernel
theorem dX7_friends_71 : decode cX7_friends 71 = .ok (.iastore, 1) := by decide +kernel
theorem dX7_friends_72 : decode cX7_friends 72 = .ok (.aload_n 0, 1) := by decide +kernel
theorem dX7_friends_73 : decode cX7_friends 73 = .ok (.iload_n 1, 1) := by decide +kernel
theorem dX7_friends_74 : decode cX7_friends 74 = .ok (.iload_n 2, 1) := by decide +kernel
theorem dX7_friends_75 : decode cX7_friends 75 = .ok (.invokevirtual 264, 3) := by decide +kernel
theorem dX7_friends_78 : decode cX7_friends 78 = .ok (.iconst (-1), 1) := by decide +kernel
theorem dX7_friends_79 : decode cX7_friends 79 = .ok (.if_icmp .ne 12, 3) := by decide +kernel
theorem dX7_friends_82 : decode cX7_friends 82 = .ok (.iload 6, 2) := by decide +kernel
theorem dX7_friends_84 : decode cX7_friends 84 = .ok (.iconst 1, 1) := by decide +kernel
theorem dX7_friends_85 : decode cX7_friends 85 = .ok (.iload 7, 2) := by decide +kernel
theorem dX7_friends_87 : decode cX7_friends 87 = .ok (.ishl, 1) := by decide +kernel
theorem dX7_friends_88 : decode cX7_friends 88 = .ok (.iadd, 1) := by decide +kernel
theorem dX7_friends_89 : decode cX7_friends 89 = .ok (.istore 6, 2) := by decide +kernel
theorem dX7_friends_91 : decode cX7_friends 91 = .ok (.iinc 7 1, 3) := by decide +kernel
theorem dX7_friends_94 : decode cX7_friends 94 = .ok (.goto (-48), 3) := by decide +kernel
theorem dX7_friends_97 : decode cX7_friends 97 = .ok (.aload_n 0, 1) := by decide +kernel
theorem dX7_friends_98 : decode cX7_friends 98 = .ok (.getfield 41, 3) := by decide +kernel
theorem dX7_friends_101 : decode cX7_friends 101 = .ok (.iload_n 3, 1) := by decide +kernel
theorem dX7_friends_102 : decode cX7_friends 102 = .ok (.iconst (-1), 1) := by decide +kernel
theorem dX7_friends_103 : decode cX7_friends 103 = .ok (.iastore, 1) := by decide +kernel
theorem dX7_friends_104 : decode cX7_friends 104 = .ok (.aload_n 0, 1) := by decide +kernel
theorem dX7_friends_105 : decode cX7_friends 105 = .ok (.iload_n 1, 1) := by decide +kernel
theorem dX7_friends_106 : decode cX7_friends 106 = .ok (.iload_n 2, 1) := by decide +kernel
theorem dX7_friends_107 : decode cX7_friends 107 = .ok (.invokevirtual 264, 3) := by decide +kernel
theorem dX7_friends_110 : decode cX7_friends 110 = .ok (.iconst (-1), 1) := by decide +kernel
theorem dX7_friends_111 : decode cX7_friends 111 = .ok (.if_icmp .ne 14, 3) := by decide +kernel
theorem dX7_friends_114 : decode cX7_friends 114 = .ok (.iload 6, 2) := by decide +kernel
theorem dX7_friends_116 : decode cX7_friends 116 = .ok (.iconst 1, 1) := by decide +kernel
theorem dX7_friends_117 : decode cX7_friends 117 = .ok (.aload_n 0, 1) := by decide +kernel
theorem dX7_friends_118 : decode cX7_friends 118 = .ok (.getfield 102, 3) := by decide +kernel
theorem dX7_friends_121 : decode cX7_friends 121 = .ok (.ishl, 1) := by decide +kernel
theorem dX7_friends_122 : decode cX7_friends 122 = .ok (.iadd, 1) := by decide +kernel
theorem dX7_friends_123 : decode cX7_friends 123 = .ok (.istore 6, 2) := by decide +kernel
theorem dX7_friends_125 : decode cX7_friends 125 = .ok (.aload_n 0, 1) := by decide +kernel
theorem dX7_friends_126 : decode cX7_friends 126 = .ok (.getfield 41, 3) := by decide +kernel
theorem dX7_friends_129 : decode cX7_friends 129 = .ok (.iload_n 3, 1) := by decide +kernel
theorem dX7_friends_130 : decode cX7_friends 130 = .ok (.iload 5, 2) := by decide +kernel
theorem dX7_friends_132 : decode cX7_friends 132 = .ok (.iastore, 1) := by decide +kernel
theorem dX7_friends_133 : decode cX7_friends 133 = .ok (.iload 6, 2) := by decide +kernel
theorem dX7_friends_135 : decode cX7_friends 135 = .ok (.ireturn, 1) := by decide +kernel
theorem dX7_judge_0 : decode cX7_judge 0 = .ok (.aload_n 0, 1) := by decide +kernel
theorem dX7_judge_1 : decode cX7_judge 1 = .ok (.iload_n 1, 1) := by decide +kernel
theorem dX7_judge_2 : decode cX7_judge 2 = .ok (.iload_n 2, 1) := by decide +kernel
theorem dX7_judge_3 : decode cX7_judge 3 = .ok (.invokevirtual 261, 3) := by decide +kernel
theorem dX7_judge_6 : decode cX7_judge 6 = .ok (.istore_n 3, 1) := by decide +kernel
theorem dX7_judge_7 : decode cX7_judge 7 = .ok (.iload_n 3, 1) := by decide +kernel
theorem dX7_judge_8 : decode cX7_judge 8 = .ok (.ifCond .eq 11, 3) := by decide +kernel
theorem dX7_judge_11 : decode cX7_judge 11 = .ok (.aload_n 0, 1) := by decide +kernel
theorem dX7_judge_12 : decode cX7_judge 12 = .ok (.iload_n 3, 1) := by decide +kernel
theorem dX7_judge_13 : decode cX7_judge 13 = .ok (.invokevirtual 128, 3) := by decide +kernel
theorem dX7_judge_16 : decode cX7_judge 16 = .ok (.goto 9, 3) := by decide +kernel
theorem dX7_judge_19 : decode cX7_judge 19 = .ok (.aload_n 0, 1) := by decide +kernel
theorem dX7_judge_20 : decode cX7_judge 20 = .ok (.iload_n 1, 1) := by decide +kernel
theorem dX7_judge_21 : decode cX7_judge 21 = .ok (.iload_n 2, 1) := by decide +kernel
theorem dX7_judge_22 : decode cX7_judge 22 = .ok (.invokevirtual 264, 3) := by decide +kernel
theorem dX7_judge_25 : decode cX7_judge 25 = .ok (.ireturn, 1) := by decide +kernel
theorem dX7_evenings_0 : decode cX7_evenings 0 = .ok (.aload_n 0, 1) := by decide +kernel
theorem dX7_evenings_1 : decode cX7_evenings 1 = .ok (.iload_n 1, 1) := by decide +kernel
theorem dX7_evenings_2 : decode cX7_evenings 2 = .ok (.iconst 1, 1) := by decide +kernel
theorem dX7_evenings_3 : decode cX7_evenings 3 = .ok (.bipush 24, 2) := by decide +kernel
theorem dX7_evenings_5 : decode cX7_evenings 5 = .ok (.invokevirtual 120, 3) := by decide +kernel
theorem dX7_evenings_8 : decode cX7_evenings 8 = .ok (.ifCond .ne 10, 3) := by decide +kernel
theorem dX7_evenings_11 : decode cX7_evenings 11 = .ok (.aload_n 0, 1) := by decide +kernel
theorem dX7_evenings_12 : decode cX7_evenings 12 = .ok (.bipush (-6), 2) := by decide +kernel
theorem dX7_evenings_14 : decode cX7_evenings 14 = .ok (.invokevirtual 109, 3) := by decide +kernel
theorem dX7_evenings_17 : decode cX7_evenings 17 = .ok (.ireturn, 1) := by decide +kernel
theorem dX7_evenings_18 : decode cX7_evenings 18 = .ok (.iconst 0, 1) := by decide +kernel
theorem dX7_evenings_19 : decode cX7_evenings 19 = .ok (.istore_n 2, 1) := by decide +kernel
theorem dX7_evenings_20 : decode cX7_evenings 20 = .ok (.iconst 0, 1) := by decide +kernel
theorem dX7_evenings_21 : decode cX7_evenings 21 = .ok (.istore_n 3, 1) := by decide +kernel
theorem dX7_evenings_22 : decode cX7_evenings 22 = .ok (.iload_n 3, 1) := by decide +kernel
theorem dX7_evenings_23 : decode cX7_evenings 23 = .ok (.iload_n 1, 1) := by decide +kernel
theorem dX7_evenings_24 : decode cX7_evenings 24 = .ok (.if_icmp .ge 20, 3) := by decide +kernel
theorem dX7_evenings_27 : decode cX7_evenings 27 = .ok (.aload_n 0, 1) := by decide +kernel
theorem dX7_evenings_28 : decode cX7_evenings 28 = .ok (.invokevirtual 230, 3) := by decide +kernel
theorem dX7_evenings_31 : decode cX7_evenings 31 = .ok (.iload_n 2, 1) := by decide +kernel
theorem dX7_evenings_32 : decode cX7_evenings 32 = .ok (.aload_n 0, 1) := by decide +kernel
theorem dX7_evenings_33 : decode cX7_evenings 33 = .ok (.getfield 211, 3) := by decide +kernel
theorem dX7_evenings_36 : decode cX7_evenings 36 = .ok (.iadd, 1) := by decide +kernel
theorem dX7_evenings_37 : decode cX7_evenings 37 = .ok (.istore_n 2, 1) := by decide +kernel
theorem dX7_evenings_38 : decode cX7_evenings 38 = .ok (.iinc 3 1, 3) := by decide +kernel
theorem dX7_evenings_41 : decode cX7_evenings 41 = .ok (.goto (-19), 3) := by decide +kernel
theorem dX7_evenings_44 : decode cX7_evenings 44 = .ok (.iload_n 2, 1) := by decide +kernel
theorem dX7_evenings_45 : decode cX7_evenings 45 = .ok (.ireturn, 1) := by decide +kernel
theorem dX7_draw_0 : decode cX7_draw 0 = .ok (.aload_n 0, 1) := by decide +kernel
theorem dX7_draw_1 : decode cX7_draw 1 = .ok (.aload_n 0, 1) := by decide +kernel
theorem dX7_draw_2 : decode cX7_draw 2 = .ok (.getfield 19, 3) := by decide +kernel
theorem dX7_draw_5 : decode cX7_draw 5 = .ok (.ldc_w 267, 3) := by decide +kernel
theorem dX7_draw_8 : decode cX7_draw 8 = .ok (.imul, 1) := by decide +kernel
theorem dX7_draw_9 : decode cX7_draw 9 = .ok (.sipush 12345, 3) := by decide +kernel
theorem dX7_draw_12 : decode cX7_draw 12 = .ok (.iadd, 1) := by decide +kernel
theorem dX7_draw_13 : decode cX7_draw 13 = .ok (.putfield 19, 3) := by decide +kernel
theorem dX7_draw_16 : decode cX7_draw 16 = .ok (.aload_n 0, 1) := by decide +kernel
theorem dX7_draw_17 : decode cX7_draw 17 = .ok (.getfield 19, 3) := by decide +kernel
theorem dX7_draw_20 : decode cX7_draw 20 = .ok (.bipush 16, 2) := by decide +kernel
theorem dX7_draw_22 : decode cX7_draw 22 = .ok (.iushr, 1) := by decide +kernel
theorem dX7_draw_23 : decode cX7_draw 23 = .ok (.iload_n 1, 1) := by decide +kernel
theorem dX7_draw_24 : decode cX7_draw 24 = .ok (.irem, 1) := by decide +kernel
theorem dX7_draw_25 : decode cX7_draw 25 = .ok (.ireturn, 1) := by decide +kernel
theorem dX7_drawn_0 : decode cX7_drawn 0 = .ok (.aload_n 0, 1) := by decide +kernel
theorem dX7_drawn_1 : decode cX7_drawn 1 = .ok (.iload_n 1, 1) := by decide +kernel
theorem dX7_drawn_2 : decode cX7_drawn 2 = .ok (.iconst 1, 1) := by decide +kernel
theorem dX7_drawn_3 : decode cX7_drawn 3 = .ok (.bipush 24, 2) := by decide +kernel
theorem dX7_drawn_5 : decode cX7_drawn 5 = .ok (.invokevirtual 120, 3) := by decide +kernel
theorem dX7_drawn_8 : decode cX7_drawn 8 = .ok (.ifCond .ne 10, 3) := by decide +kernel
theorem dX7_drawn_11 : decode cX7_drawn 11 = .ok (.aload_n 0, 1) := by decide +kernel
theorem dX7_drawn_12 : decode cX7_drawn 12 = .ok (.bipush (-6), 2) := by decide +kernel
theorem dX7_drawn_14 : decode cX7_drawn 14 = .ok (.invokevirtual 109, 3) := by decide +kernel
theorem dX7_drawn_17 : decode cX7_drawn 17 = .ok (.ireturn, 1) := by decide +kernel
theorem dX7_drawn_18 : decode cX7_drawn 18 = .ok (.iconst 0, 1) := by decide +kernel
theorem dX7_drawn_19 : decode cX7_drawn 19 = .ok (.istore_n 2, 1) := by decide +kernel
theorem dX7_drawn_20 : decode cX7_drawn 20 = .ok (.iconst 0, 1) := by decide +kernel
theorem dX7_drawn_21 : decode cX7_drawn 21 = .ok (.istore_n 3, 1) := by decide +kernel
theorem dX7_drawn_22 : decode cX7_drawn 22 = .ok (.iload_n 3, 1) := by decide +kernel
theorem dX7_drawn_23 : decode cX7_drawn 23 = .ok (.iload_n 1, 1) := by decide +kernel
theorem dX7_drawn_24 : decode cX7_drawn 24 = .ok (.if_icmp .ge 30, 3) := by decide +kernel
theorem dX7_drawn_27 : decode cX7_drawn 27 = .ok (.aload_n 0, 1) := by decide +kernel
theorem dX7_drawn_28 : decode cX7_drawn 28 = .ok (.aload_n 0, 1) := by decide +kernel
theorem dX7_drawn_29 : decode cX7_drawn 29 = .ok (.bipush 10, 2) := by decide +kernel
theorem dX7_drawn_31 : decode cX7_drawn 31 = .ok (.invokevirtual 268, 3) := by decide +kernel
theorem dX7_drawn_34 : decode cX7_drawn 34 = .ok (.putfield 131, 3) := by decide +kernel
theorem dX7_drawn_37 : decode cX7_drawn 37 = .ok (.aload_n 0, 1) := by decide +kernel
theorem dX7_drawn_38 : decode cX7_drawn 38 = .ok (.invokevirtual 230, 3) := by decide +kernel
theorem dX7_drawn_41 : decode cX7_drawn 41 = .ok (.iload_n 2, 1) := by decide +kernel
theorem dX7_drawn_42 : decode cX7_drawn 42 = .ok (.aload_n 0, 1) := by decide +kernel
theorem dX7_drawn_43 : decode cX7_drawn 43 = .ok (.getfield 211, 3) := by decide +kernel
theorem dX7_drawn_46 : decode cX7_drawn 46 = .ok (.iadd, 1) := by decide +kernel
theorem dX7_drawn_47 : decode cX7_drawn 47 = .ok (.istore_n 2, 1) := by decide +kernel
theorem dX7_drawn_48 : decode cX7_drawn 48 = .ok (.iinc 3 1, 3) := by decide +kernel
theorem dX7_drawn_51 : decode cX7_drawn 51 = .ok (.goto (-29), 3) := by decide +kernel
theorem dX7_drawn_54 : decode cX7_drawn 54 = .ok (.iload_n 2, 1) := by decide +kernel
theorem dX7_drawn_55 : decode cX7_drawn 55 = .ok (.ireturn, 1) := by decide +kernel
theorem dX7_seed_0 : decode cX7_seed 0 = .ok (.aload_n 0, 1) := by decide +kernel
theorem dX7_seed_1 : decode cX7_seed 1 = .ok (.getfield 19, 3) := by decide +kernel
theorem dX7_seed_4 : decode cX7_seed 4 = .ok (.istore_n 2, 1) := by decide +kernel
theorem dX7_seed_5 : decode cX7_seed 5 = .ok (.aload_n 0, 1) := by decide +kernel
theorem dX7_seed_6 : decode cX7_seed 6 = .ok (.iload_n 1, 1) := by decide +kernel
theorem dX7_seed_7 : decode cX7_seed 7 = .ok (.putfield 19, 3) := by decide +kernel
theorem dX7_seed_10 : decode cX7_seed 10 = .ok (.iload_n 2, 1) := by decide +kernel
theorem dX7_seed_11 : decode cX7_seed 11 = .ok (.ireturn, 1) := by decide +kernel
theorem dX7_body_0 : decode cX7_body 0 = .ok (.aload_n 0, 1) := by decide +kernel
theorem dX7_body_1 : decode cX7_body 1 = .ok (.getfield 271, 3) := by decide +kernel
theorem dX7_body_4 : decode cX7_body 4 = .ok (.bipush 20, 2) := by decide +kernel
theorem dX7_body_6 : decode cX7_body 6 = .ok (.if_icmp .ge 13, 3) := by decide +kernel
theorem dX7_body_9 : decode cX7_body 9 = .ok (.aload_n 0, 1) := by decide +kernel
theorem dX7_body_10 : decode cX7_body 10 = .ok (.getfield 99, 3) := by decide +kernel
theorem dX7_body_13 : decode cX7_body 13 = .ok (.aload_n 0, 1) := by decide +kernel
theorem dX7_body_14 : decode cX7_body 14 = .ok (.getfield 271, 3) := by decide +kernel
theorem dX7_body_17 : decode cX7_body 17 = .ok (.iload_n 1, 1) := by decide +kernel
theorem dX7_body_18 : decode cX7_body 18 = .ok (.iastore, 1) := by decide +kernel
theorem dX7_body_19 : decode cX7_body 19 = .ok (.aload_n 0, 1) := by decide +kernel
theorem dX7_body_20 : decode cX7_body 20 = .ok (.dup, 1) := by decide +kernel
theorem dX7_body_21 : decode cX7_body 21 = .ok (.getfield 271, 3) := by decide +kernel
theorem dX7_body_24 : decode cX7_body 24 = .ok (.iconst 1, 1) := by decide +kernel
theorem dX7_body_25 : decode cX7_body 25 = .ok (.iadd, 1) := by decide +kernel
theorem dX7_body_26 : decode cX7_body 26 = .ok (.putfield 271, 3) := by decide +kernel
theorem dX7_body_29 : decode cX7_body 29 = .ok (.return_, 1) := by decide +kernel
theorem dX7_coming_0 : decode cX7_coming 0 = .ok (.aload_n 0, 1) := by decide +kernel
theorem dX7_coming_1 : decode cX7_coming 1 = .ok (.getfield 29, 3) := by decide +kernel
theorem dX7_coming_4 : decode cX7_coming 4 = .ok (.iload_n 1, 1) := by decide +kernel
theorem dX7_coming_5 : decode cX7_coming 5 = .ok (.iaload, 1) := by decide +kernel
theorem dX7_coming_6 : decode cX7_coming 6 = .ok (.istore_n 3, 1) := by decide +kernel
theorem dX7_coming_7 : decode cX7_coming 7 = .ok (.iload_n 2, 1) := by decide +kernel
theorem dX7_coming_8 : decode cX7_coming 8 = .ok (.istore 4, 2) := by decide +kernel
theorem dX7_coming_10 : decode cX7_coming 10 = .ok (.aload_n 0, 1) := by decide +kernel
theorem dX7_coming_11 : decode cX7_coming 11 = .ok (.iload_n 3, 1) := by decide +kernel
theorem dX7_coming_12 : decode cX7_coming 12 = .ok (.iconst 1, 1) := by decide +kernel
theorem dX7_coming_13 : decode cX7_coming 13 = .ok (.invokevirtual 116, 3) := by decide +kernel
theorem dX7_coming_16 : decode cX7_coming 16 = .ok (.istore 5, 2) := by decide +kernel
theorem dX7_coming_18 : decode cX7_coming 18 = .ok (.aload_n 0, 1) := by decide +kernel
theorem dX7_coming_19 : decode cX7_coming 19 = .ok (.iload_n 3, 1) := by decide +kernel
theorem dX7_coming_20 : decode cX7_coming 20 = .ok (.iconst 3, 1) := by decide +kernel
theorem dX7_coming_21 : decode cX7_coming 21 = .ok (.invokevirtual 116, 3) := by decide +kernel
theorem dX7_coming_24 : decode cX7_coming 24 = .ok (.istore 6, 2) := by decide +kernel
theorem dX7_coming_26 : decode cX7_coming 26 = .ok (.iload_n 3, 1) := by decide +kernel
theorem dX7_coming_27 : decode cX7_coming 27 = .ok (.bipush 6, 2) := by decide +kernel
theorem dX7_coming_29 : decode cX7_coming 29 = .ok (.if_icmp .ne 9, 3) := by decide +kernel
theorem dX7_coming_32 : decode cX7_coming 32 = .ok (.aload_n 0, 1) := by decide +kernel
theorem dX7_coming_33 : decode cX7_coming 33 = .ok (.bipush 70, 2) := by decide +kernel
theorem dX7_coming_35 : decode cX7_coming 35 = .ok (.invokevirtual 274, 3) := by decide +kernel
theorem dX7_coming_38 : decode cX7_coming 38 = .ok (.iload 6, 2) := by decide +kernel
theorem dX7_coming_40 : decode cX7_coming 40 = .ok (.ifCond .eq 14, 3) := by decide +kernel
theorem dX7_coming_43 : decode cX7_coming 43 = .ok (.aload_n 0, 1) := by decide +kernel
theorem dX7_coming_44 : decode cX7_coming 44 = .ok (.bipush 40, 2) := by decide +kernel
theorem dX7_coming_46 : decode cX7_coming 46 = .ok (.invokevirtual 274, 3) := by decide +kernel
theorem dX7_coming_49 : decode cX7_coming 49 = .ok (.iload_n 2, 1) := by decide +kernel
theorem dX7_coming_50 : decode cX7_coming 50 = .ok (.iconst 1, 1) := by decide +kernel
theorem dX7_coming_51 : decode cX7_coming 51 = .ok (.iadd, 1) := by decide +kernel
theorem dX7_coming_52 : decode cX7_coming 52 = .ok (.istore 4, 2) := by decide +kernel
theorem dX7_coming_54 : decode cX7_coming 54 = .ok (.iload 5, 2) := by decide +kernel
theorem dX7_coming_56 : decode cX7_coming 56 = .ok (.ifCond .eq 9, 3) := by decide +kernel
theorem dX7_coming_59 : decode cX7_coming 59 = .ok (.aload_n 0, 1) := by decide +kernel
theorem dX7_coming_60 : decode cX7_coming 60 = .ok (.bipush 20, 2) := by decide +kernel
theorem dX7_coming_62 : decode cX7_coming 62 = .ok (.invokevirtual 274, 3) := by decide +kernel
theorem dX7_coming_65 : decode cX7_coming 65 = .ok (.iload_n 3, 1) := by decide +kernel
theorem dX7_coming_66 : decode cX7_coming 66 = .ok (.iconst 5, 1) := by decide +kernel
theorem dX7_coming_67 : decode cX7_coming 67 = .ok (.if_icmp .ne 9, 3) := by decide +kernel
theorem dX7_coming_70 : decode cX7_coming 70 = .ok (.aload_n 0, 1) := by decide +kernel
theorem dX7_coming_71 : decode cX7_coming 71 = .ok (.bipush 51, 2) := by decide +kernel
theorem dX7_coming_73 : decode cX7_coming 73 = .ok (.invokevirtual 274, 3) := by decide +kernel
theorem dX7_coming_76 : decode cX7_coming 76 = .ok (.aload_n 0, 1) := by decide +kernel
theorem dX7_coming_77 : decode cX7_coming 77 = .ok (.bipush 10, 2) := by decide +kernel
theorem dX7_coming_79 : decode cX7_coming 79 = .ok (.invokevirtual 274, 3) := by decide +kernel
theorem dX7_coming_82 : decode cX7_coming 82 = .ok (.iload 4, 2) := by decide +kernel
theorem dX7_coming_84 : decode cX7_coming 84 = .ok (.iload_n 1, 1) := by decide +kernel
theorem dX7_coming_85 : decode cX7_coming 85 = .ok (.iadd, 1) := by decide +kernel
theorem dX7_coming_86 : decode cX7_coming 86 = .ok (.istore 7, 2) := by decide +kernel
theorem dX7_coming_88 : decode cX7_coming 88 = .ok (.iload 5, 2) := by decide +kernel
theorem dX7_coming_90 : decode cX7_coming 90 = .ok (.ifCond .eq 14, 3) := by decide +kernel
theorem dX7_coming_93 : decode cX7_coming 93 = .ok (.iload 7, 2) := by decide +kernel
theorem dX7_coming_95 : decode cX7_coming 95 = .ok (.aload_n 0, 1) := by decide +kernel
theorem dX7_coming_96 : decode cX7_coming 96 = .ok (.getfield 32, 3) := by decide +kernel
theorem dX7_coming_99 : decode cX7_coming 99 = .ok (.iload_n 1, 1) := by decide +kernel
theorem dX7_coming_100 : decode cX7_coming 100 = .ok (.iaload, 1) := by decide +kernel
theorem dX7_coming_101 : decode cX7_coming 101 = .ok (.iadd, 1) := by decide +kernel
theorem dX7_coming_102 : decode cX7_coming 102 = .ok (.istore 7, 2) := by decide +kernel
theorem dX7_coming_104 : decode cX7_coming 104 = .ok (.iload_n 3, 1) := by decide +kernel
theorem dX7_coming_105 : decode cX7_coming 105 = .ok (.iconst 5, 1) := by decide +kernel
theorem dX7_coming_106 : decode cX7_coming 106 = .ok (.if_icmp .ne 9, 3) := by decide +kernel
theorem dX7_coming_109 : decode cX7_coming 109 = .ok (.iload 7, 2) := by decide +kernel
theorem dX7_coming_111 : decode cX7_coming 111 = .ok (.iload_n 1, 1) := by decide +kernel
theorem dX7_coming_112 : decode cX7_coming 112 = .ok (.isub, 1) := by decide +kernel
theorem dX7_coming_113 : decode cX7_coming 113 = .ok (.istore 7, 2) := by decide +kernel
theorem dX7_coming_115 : decode cX7_coming 115 = .ok (.iload_n 3, 1) := by decide +kernel
theorem dX7_coming_116 : decode cX7_coming 116 = .ok (.bipush 6, 2) := by decide +kernel
theorem dX7_coming_118 : decode cX7_coming 118 = .ok (.if_icmp .ne 10, 3) := by decide +kernel
theorem dX7_coming_121 : decode cX7_coming 121 = .ok (.iload 7, 2) := by decide +kernel
theorem dX7_coming_123 : decode cX7_coming 123 = .ok (.iconst 2, 1) := by decide +kernel
theorem dX7_coming_124 : decode cX7_coming 124 = .ok (.imul, 1) := by decide +kernel
theorem dX7_coming_125 : decode cX7_coming 125 = .ok (.goto 5, 3) := by decide +kernel
theorem dX7_coming_128 : decode cX7_coming 128 = .ok (.iload 7, 2) := by decide +kernel
theorem dX7_coming_130 : decode cX7_coming 130 = .ok (.ireturn, 1) := by decide +kernel
theorem dX7_sitting_0 : decode cX7_sitting 0 = .ok (.aload_n 0, 1) := by decide +kernel
theorem dX7_sitting_1 : decode cX7_sitting 1 = .ok (.getfield 29, 3) := by decide +kernel
theorem dX7_sitting_4 : decode cX7_sitting 4 = .ok (.iload_n 1, 1) := by decide +kernel
theorem dX7_sitting_5 : decode cX7_sitting 5 = .ok (.iaload, 1) := by decide +kernel
theorem dX7_sitting_6 : decode cX7_sitting 6 = .ok (.istore_n 3, 1) := by decide +kernel
theorem dX7_sitting_7 : decode cX7_sitting 7 = .ok (.iload_n 2, 1) := by decide +kernel
theorem dX7_sitting_8 : decode cX7_sitting 8 = .ok (.istore 4, 2) := by decide +kernel
theorem dX7_sitting_10 : decode cX7_sitting 10 = .ok (.iload_n 3, 1) := by decide +kernel
theorem dX7_sitting_11 : decode cX7_sitting 11 = .ok (.bipush 6, 2) := by decide +kernel
theorem dX7_sitting_13 : decode cX7_sitting 13 = .ok (.if_icmp .ne 19, 3) := by decide +kernel
theorem dX7_sitting_16 : decode cX7_sitting 16 = .ok (.aload_n 0, 1) := by decide +kernel
theorem dX7_sitting_17 : decode cX7_sitting 17 = .ok (.bipush 71, 2) := by decide +kernel
theorem dX7_sitting_19 : decode cX7_sitting 19 = .ok (.invokevirtual 274, 3) := by decide +kernel
theorem dX7_sitting_22 : decode cX7_sitting 22 = .ok (.iload_n 2, 1) := by decide +kernel
theorem dX7_sitting_23 : decode cX7_sitting 23 = .ok (.aload_n 0, 1) := by decide +kernel
theorem dX7_sitting_24 : decode cX7_sitting 24 = .ok (.getfield 32, 3) := by decide +kernel
theorem dX7_sitting_27 : decode cX7_sitting 27 = .ok (.iload_n 1, 1) := by decide +kernel
theorem dX7_sitting_28 : decode cX7_sitting 28 = .ok (.iaload, 1) := by decide +kernel
theorem dX7_sitting_29 : decode cX7_sitting 29 = .ok (.isub, 1) := by decide +kernel
theorem dX7_sitting_30 : decode cX7_sitting 30 = .ok (.istore 4, 2) := by decide +kernel
theorem dX7_sitting_32 : decode cX7_sitting 32 = .ok (.aload_n 0, 1) := by decide +kernel
theorem dX7_sitting_33 : decode cX7_sitting 33 = .ok (.iload_n 3, 1) := by decide +kernel
theorem dX7_sitting_34 : decode cX7_sitting 34 = .ok (.iconst 2, 1) := by decide +kernel
theorem dX7_sitting_35 : decode cX7_sitting 35 = .ok (.invokevirtual 116, 3) := by decide +kernel
theorem dX7_sitting_38 : decode cX7_sitting 38 = .ok (.istore 5, 2) := by decide +kernel
theorem dX7_sitting_40 : decode cX7_sitting 40 = .ok (.iload 5, 2) := by decide +kernel
theorem dX7_sitting_42 : decode cX7_sitting 42 = .ok (.ifCond .eq 9, 3) := by decide +kernel
theorem dX7_sitting_45 : decode cX7_sitting 45 = .ok (.aload_n 0, 1) := by decide +kernel
theorem dX7_sitting_46 : decode cX7_sitting 46 = .ok (.bipush 30, 2) := by decide +kernel
theorem dX7_sitting_48 : decode cX7_sitting 48 = .ok (.invokevirtual 274, 3) := by decide +kernel
theorem dX7_sitting_51 : decode cX7_sitting 51 = .ok (.aload_n 0, 1) := by decide +kernel
theorem dX7_sitting_52 : decode cX7_sitting 52 = .ok (.bipush 11, 2) := by decide +kernel
theorem dX7_sitting_54 : decode cX7_sitting 54 = .ok (.invokevirtual 274, 3) := by decide +kernel
theorem dX7_sitting_57 : decode cX7_sitting 57 = .ok (.aload_n 0, 1) := by decide +kernel
theorem dX7_sitting_58 : decode cX7_sitting 58 = .ok (.iload_n 1, 1) := by decide +kernel
theorem dX7_sitting_59 : decode cX7_sitting 59 = .ok (.iload 4, 2) := by decide +kernel
theorem dX7_sitting_61 : decode cX7_sitting 61 = .ok (.invokevirtual 277, 3) := by decide +kernel
theorem dX7_sitting_64 : decode cX7_sitting 64 = .ok (.iconst 2, 1) := by decide +kernel
theorem dX7_sitting_65 : decode cX7_sitting 65 = .ok (.imul, 1) := by decide +kernel
theorem dX7_sitting_66 : decode cX7_sitting 66 = .ok (.istore 6, 2) := by decide +kernel
theorem dX7_sitting_68 : decode cX7_sitting 68 = .ok (.iload 5, 2) := by decide +kernel
theorem dX7_sitting_70 : decode cX7_sitting 70 = .ok (.ifCond .eq 10, 3) := by decide +kernel
theorem dX7_sitting_73 : decode cX7_sitting 73 = .ok (.iload 6, 2) := by decide +kernel
theorem dX7_sitting_75 : decode cX7_sitting 75 = .ok (.iconst 3, 1) := by decide +kernel
theorem dX7_sitting_76 : decode cX7_sitting 76 = .ok (.imul, 1) := by decide +kernel
theorem dX7_sitting_77 : decode cX7_sitting 77 = .ok (.goto 5, 3) := by decide +kernel
theorem dX7_sitting_80 : decode cX7_sitting 80 = .ok (.iload 6, 2) := by decide +kernel
theorem dX7_sitting_82 : decode cX7_sitting 82 = .ok (.ireturn, 1) := by decide +kernel
theorem dX7_asking_0 : decode cX7_asking 0 = .ok (.aload_n 0, 1) := by decide +kernel
theorem dX7_asking_1 : decode cX7_asking 1 = .ok (.getfield 29, 3) := by decide +kernel
theorem dX7_asking_4 : decode cX7_asking 4 = .ok (.iload_n 1, 1) := by decide +kernel
theorem dX7_asking_5 : decode cX7_asking 5 = .ok (.iaload, 1) := by decide +kernel
theorem dX7_asking_6 : decode cX7_asking 6 = .ok (.istore_n 3, 1) := by decide +kernel
theorem dX7_asking_7 : decode cX7_asking 7 = .ok (.iload_n 3, 1) := by decide +kernel
theorem dX7_asking_8 : decode cX7_asking 8 = .ok (.iconst 4, 1) := by decide +kernel
theorem dX7_asking_9 : decode cX7_asking 9 = .ok (.if_icmp .ne 9, 3) := by decide +kernel
theorem dX7_asking_12 : decode cX7_asking 12 = .ok (.aload_n 0, 1) := by decide +kernel
theorem dX7_asking_13 : decode cX7_asking 13 = .ok (.bipush 60, 2) := by decide +kernel
theorem dX7_asking_15 : decode cX7_asking 15 = .ok (.invokevirtual 274, 3) := by decide +kernel
theorem dX7_asking_18 : decode cX7_asking 18 = .ok (.iload_n 3, 1) := by decide +kernel
theorem dX7_asking_19 : decode cX7_asking 19 = .ok (.iconst 5, 1) := by decide +kernel
theorem dX7_asking_20 : decode cX7_asking 20 = .ok (.if_icmp .ne 9, 3) := by decide +kernel
theorem dX7_asking_23 : decode cX7_asking 23 = .ok (.aload_n 0, 1) := by decide +kernel
theorem dX7_asking_24 : decode cX7_asking 24 = .ok (.bipush 50, 2) := by decide +kernel
theorem dX7_asking_26 : decode cX7_asking 26 = .ok (.invokevirtual 274, 3) := by decide +kernel
theorem dX7_asking_29 : decode cX7_asking 29 = .ok (.aload_n 0, 1) := by decide +kernel
theorem dX7_asking_30 : decode cX7_asking 30 = .ok (.bipush 12, 2) := by decide +kernel
theorem dX7_asking_32 : decode cX7_asking 32 = .ok (.invokevirtual 274, 3) := by decide +kernel
theorem dX7_asking_35 : decode cX7_asking 35 = .ok (.aload_n 0, 1) := by decide +kernel
theorem dX7_asking_36 : decode cX7_asking 36 = .ok (.iload_n 1, 1) := by decide +kernel
theorem dX7_asking_37 : decode cX7_asking 37 = .ok (.iload_n 2, 1) := by decide +kernel
theorem dX7_asking_38 : decode cX7_asking 38 = .ok (.invokevirtual 279, 3) := by decide +kernel
theorem dX7_asking_41 : decode cX7_asking 41 = .ok (.istore 4, 2) := by decide +kernel
theorem dX7_asking_43 : decode cX7_asking 43 = .ok (.iload 4, 2) := by decide +kernel
theorem dX7_asking_45 : decode cX7_asking 45 = .ok (.aload_n 0, 1) := by decide +kernel
theorem dX7_asking_46 : decode cX7_asking 46 = .ok (.iload_n 1, 1) := by decide +kernel
theorem dX7_asking_47 : decode cX7_asking 47 = .ok (.iload_n 2, 1) := by decide +kernel
theorem dX7_asking_48 : decode cX7_asking 48 = .ok (.aload_n 0, 1) := by decide +kernel
theorem dX7_asking_49 : decode cX7_asking 49 = .ok (.getfield 32, 3) := by decide +kernel
theorem dX7_asking_52 : decode cX7_asking 52 = .ok (.iload_n 1, 1) := by decide +kernel
theorem dX7_asking_53 : decode cX7_asking 53 = .ok (.iaload, 1) := by decide +kernel
theorem dX7_asking_54 : decode cX7_asking 54 = .ok (.isub, 1) := by decide +kernel
theorem dX7_asking_55 : decode cX7_asking 55 = .ok (.invokevirtual 277, 3) := by decide +kernel
theorem dX7_asking_58 : decode cX7_asking 58 = .ok (.ixor, 1) := by decide +kernel
theorem dX7_asking_59 : decode cX7_asking 59 = .ok (.istore 4, 2) := by decide +kernel
theorem dX7_asking_61 : decode cX7_asking 61 = .ok (.iload_n 3, 1) := by decide +kernel
theorem dX7_asking_62 : decode cX7_asking 62 = .ok (.iconst 5, 1) := by decide +kernel
theorem dX7_asking_63 : decode cX7_asking 63 = .ok (.if_icmp .ne 9, 3) := by decide +kernel
theorem dX7_asking_66 : decode cX7_asking 66 = .ok (.iload 4, 2) := by decide +kernel
theorem dX7_asking_68 : decode cX7_asking 68 = .ok (.ineg, 1) := by decide +kernel
theorem dX7_asking_69 : decode cX7_asking 69 = .ok (.goto 17, 3) := by decide +kernel
theorem dX7_asking_72 : decode cX7_asking 72 = .ok (.iload_n 3, 1) := by decide +kernel
theorem dX7_asking_73 : decode cX7_asking 73 = .ok (.iconst 4, 1) := by decide +kernel
theorem dX7_asking_74 : decode cX7_asking 74 = .ok (.if_icmp .ne 10, 3) := by decide +kernel
theorem dX7_asking_77 : decode cX7_asking 77 = .ok (.iload 4, 2) := by decide +kernel
theorem dX7_asking_79 : decode cX7_asking 79 = .ok (.iconst 5, 1) := by decide +kernel
theorem dX7_asking_80 : decode cX7_asking 80 = .ok (.ixor, 1) := by decide +kernel
theorem dX7_asking_81 : decode cX7_asking 81 = .ok (.goto 5, 3) := by decide +kernel
theorem dX7_asking_84 : decode cX7_asking 84 = .ok (.iload 4, 2) := by decide +kernel
theorem dX7_asking_86 : decode cX7_asking 86 = .ok (.ireturn, 1) := by decide +kernel
theorem dX7_act_0 : decode cX7_act 0 = .ok (.aload_n 0, 1) := by decide +kernel
theorem dX7_act_1 : decode cX7_act 1 = .ok (.iconst 0, 1) := by decide +kernel
theorem dX7_act_2 : decode cX7_act 2 = .ok (.putfield 271, 3) := by decide +kernel
theorem dX7_act_5 : decode cX7_act 5 = .ok (.aload_n 0, 1) := by decide +kernel
theorem dX7_act_6 : decode cX7_act 6 = .ok (.iload_n 1, 1) := by decide +kernel
theorem dX7_act_7 : decode cX7_act 7 = .ok (.invokevirtual 113, 3) := by decide +kernel
theorem dX7_act_10 : decode cX7_act 10 = .ok (.ifCond .eq 12, 3) := by decide +kernel
theorem dX7_act_13 : decode cX7_act 13 = .ok (.iload_n 2, 1) := by decide +kernel
theorem dX7_act_14 : decode cX7_act 14 = .ok (.ifCond .lt 8, 3) := by decide +kernel
theorem dX7_act_17 : decode cX7_act 17 = .ok (.iload_n 2, 1) := by decide +kernel
theorem dX7_act_18 : decode cX7_act 18 = .ok (.iconst 2, 1) := by decide +kernel
theorem dX7_act_19 : decode cX7_act 19 = .ok (.if_icmp .le 5, 3) := by decide +kernel
theorem dX7_act_22 : decode cX7_act 22 = .ok (.iconst 0, 1) := by decide +kernel
theorem dX7_act_23 : decode cX7_act 23 = .ok (.ireturn, 1) := by decide +kernel
theorem dX7_act_24 : decode cX7_act 24 = .ok (.iload_n 2, 1) := by decide +kernel
theorem dX7_act_25 : decode cX7_act 25 = .ok (.ifCond .ne 12, 3) := by decide +kernel
theorem dX7_act_28 : decode cX7_act 28 = .ok (.aload_n 0, 1) := by decide +kernel
theorem dX7_act_29 : decode cX7_act 29 = .ok (.iload_n 1, 1) := by decide +kernel
theorem dX7_act_30 : decode cX7_act 30 = .ok (.iload_n 3, 1) := by decide +kernel
theorem dX7_act_31 : decode cX7_act 31 = .ok (.invokevirtual 277, 3) := by decide +kernel
theorem dX7_act_34 : decode cX7_act 34 = .ok (.goto 23, 3) := by decide +kernel
theorem dX7_act_37 : decode cX7_act 37 = .ok (.iload_n 2, 1) := by decide +kernel
theorem dX7_act_38 : decode cX7_act 38 = .ok (.iconst 1, 1) := by decide +kernel
theorem dX7_act_39 : decode cX7_act 39 = .ok (.if_icmp .ne 12, 3) := by decide +kernel
theorem dX7_act_42 : decode cX7_act 42 = .ok (.aload_n 0, 1) := by decide +kernel
theorem dX7_act_43 : decode cX7_act 43 = .ok (.iload_n 1, 1) := by decide +kernel
theorem dX7_act_44 : decode cX7_act 44 = .ok (.iload_n 3, 1) := by decide +kernel
theorem dX7_act_45 : decode cX7_act 45 = .ok (.invokevirtual 279, 3) := by decide +kernel
theorem dX7_act_48 : decode cX7_act 48 = .ok (.goto 9, 3) := by decide +kernel
theorem dX7_act_51 : decode cX7_act 51 = .ok (.aload_n 0, 1) := by decide +kernel
theorem dX7_act_52 : decode cX7_act 52 = .ok (.iload_n 1, 1) := by decide +kernel
theorem dX7_act_53 : decode cX7_act 53 = .ok (.iload_n 3, 1) := by decide +kernel
theorem dX7_act_54 : decode cX7_act 54 = .ok (.invokevirtual 282, 3) := by decide +kernel
theorem dX7_act_57 : decode cX7_act 57 = .ok (.ireturn, 1) := by decide +kernel
theorem dX7_trace_0 : decode cX7_trace 0 = .ok (.iload_n 1, 1) := by decide +kernel
theorem dX7_trace_1 : decode cX7_trace 1 = .ok (.ifCond .lt 26, 3) := by decide +kernel
theorem dX7_trace_4 : decode cX7_trace 4 = .ok (.iload_n 1, 1) := by decide +kernel
theorem dX7_trace_5 : decode cX7_trace 5 = .ok (.bipush 20, 2) := by decide +kernel
theorem dX7_trace_7 : decode cX7_trace 7 = .ok (.if_icmp .ge 20, 3) := by decide +kernel
theorem dX7_trace_10 : decode cX7_trace 10 = .ok (.iload_n 1, 1) := by decide +kernel
theorem dX7_trace_11 : decode cX7_trace 11 = .ok (.aload_n 0, 1) := by decide +kernel
theorem dX7_trace_12 : decode cX7_trace 12 = .ok (.getfield 271, 3) := by decide +kernel
theorem dX7_trace_15 : decode cX7_trace 15 = .ok (.if_icmp .ge 12, 3) := by decide +kernel
theorem dX7_trace_18 : decode cX7_trace 18 = .ok (.aload_n 0, 1) := by decide +kernel
theorem dX7_trace_19 : decode cX7_trace 19 = .ok (.getfield 99, 3) := by decide +kernel
theorem dX7_trace_22 : decode cX7_trace 22 = .ok (.iload_n 1, 1) := by decide +kernel
theorem dX7_trace_23 : decode cX7_trace 23 = .ok (.iaload, 1) := by decide +kernel
theorem dX7_trace_24 : decode cX7_trace 24 = .ok (.goto 4, 3) := by decide +kernel
theorem dX7_trace_27 : decode cX7_trace 27 = .ok (.iconst (-1), 1) := by decide +kernel
theorem dX7_trace_28 : decode cX7_trace 28 = .ok (.ireturn, 1) := by decide +kernel
theorem dX7_image_0 : decode cX7_image 0 = .ok (.aload_n 0, 1) := by decide +kernel
theorem dX7_image_1 : decode cX7_image 1 = .ok (.iconst 1, 1) := by decide +kernel
theorem dX7_image_2 : decode cX7_image 2 = .ok (.putfield 285, 3) := by decide +kernel
theorem dX7_image_5 : decode cX7_image 5 = .ok (.aload_n 0, 1) := by decide +kernel
theorem dX7_image_6 : decode cX7_image 6 = .ok (.aload_n 0, 1) := by decide +kernel
theorem dX7_image_7 : decode cX7_image 7 = .ok (.getfield 90, 3) := by decide +kernel
theorem dX7_image_10 : decode cX7_image 10 = .ok (.iconst 0, 1) := by decide +kernel
theorem dX7_image_11 : decode cX7_image 11 = .ok (.invokevirtual 189, 3) := by decide +kernel
theorem dX7_image_14 : decode cX7_image 14 = .ok (.aload_n 0, 1) := by decide +kernel
theorem dX7_image_15 : decode cX7_image 15 = .ok (.getfield 102, 3) := by decide +kernel
theorem dX7_image_18 : decode cX7_image 18 = .ok (.ireturn, 1) := by decide +kernel
theorem dX7_restore_0 : decode cX7_restore 0 = .ok (.aload_n 0, 1) := by decide +kernel
theorem dX7_restore_1 : decode cX7_restore 1 = .ok (.getfield 285, 3) := by decide +kernel
theorem dX7_restore_4 : decode cX7_restore 4 = .ok (.ifCond .ne 10, 3) := by decide +kernel
theorem dX7_restore_7 : decode cX7_restore 7 = .ok (.aload_n 0, 1) := by decide +kernel
theorem dX7_restore_8 : decode cX7_restore 8 = .ok (.bipush (-6), 2) := by decide +kernel
theorem dX7_restore_10 : decode cX7_restore 10 = .ok (.invokevirtual 109, 3) := by decide +kernel
theorem dX7_restore_13 : decode cX7_restore 13 = .ok (.ireturn, 1) := by decide +kernel
theorem dX7_restore_14 : decode cX7_restore 14 = .ok (.aload_n 0, 1) := by decide +kernel
theorem dX7_restore_15 : decode cX7_restore 15 = .ok (.aload_n 0, 1) := by decide +kernel
theorem dX7_restore_16 : decode cX7_restore 16 = .ok (.getfield 90, 3) := by decide +kernel
theorem dX7_restore_19 : decode cX7_restore 19 = .ok (.iconst 1, 1) := by decide +kernel
theorem dX7_restore_20 : decode cX7_restore 20 = .ok (.invokevirtual 189, 3) := by decide +kernel
theorem dX7_restore_23 : decode cX7_restore 23 = .ok (.iconst 0, 1) := by decide +kernel
theorem dX7_restore_24 : decode cX7_restore 24 = .ok (.istore_n 1, 1) := by decide +kernel
theorem dX7_restore_25 : decode cX7_restore 25 = .ok (.iload_n 1, 1) := by decide +kernel
theorem dX7_restore_26 : decode cX7_restore 26 = .ok (.bipush 8, 2) := by decide +kernel
theorem dX7_restore_28 : decode cX7_restore 28 = .ok (.if_icmp .ge 39, 3) := by decide +kernel
theorem dX7_restore_31 : decode cX7_restore 31 = .ok (.aload_n 0, 1) := by decide +kernel
theorem dX7_restore_32 : decode cX7_restore 32 = .ok (.getfield 56, 3) := by decide +kernel
theorem dX7_restore_35 : decode cX7_restore 35 = .ok (.iload_n 1, 1) := by decide +kernel
theorem dX7_restore_36 : decode cX7_restore 36 = .ok (.iaload, 1) := by decide +kernel
theorem dX7_restore_37 : decode cX7_restore 37 = .ok (.iconst 2, 1) := by decide +kernel
theorem dX7_restore_38 : decode cX7_restore 38 = .ok (.if_icmp .ne 23, 3) := by decide +kernel
theorem dX7_restore_41 : decode cX7_restore 41 = .ok (.aload_n 0, 1) := by decide +kernel
theorem dX7_restore_42 : decode cX7_restore 42 = .ok (.getfield 65, 3) := by decide +kernel
theorem dX7_restore_45 : decode cX7_restore 45 = .ok (.iload_n 1, 1) := by decide +kernel
theorem dX7_restore_46 : decode cX7_restore 46 = .ok (.iaload, 1) := by decide +kernel
theorem dX7_restore_47 : decode cX7_restore 47 = .ok (.aload_n 0, 1) := by decide +kernel
theorem dX7_restore_48 : decode cX7_restore 48 = .ok (.getfield 102, 3) := by decide +kernel
theorem dX7_restore_51 : decode cX7_restore 51 = .ok (.if_icmp .lt 10, 3) := by decide +kernel
theorem dX7_restore_54 : decode cX7_restore 54 = .ok (.aload_n 0, 1) := by decide +kernel
theorem dX7_restore_55 : decode cX7_restore 55 = .ok (.getfield 56, 3) := by decide +kernel
theorem dX7_restore_58 : decode cX7_restore 58 = .ok (.iload_n 1, 1) := by decide +kernel
theorem dX7_restore_59 : decode cX7_restore 59 = .ok (.iconst 0, 1) := by decide +kernel
theorem dX7_restore_60 : decode cX7_restore 60 = .ok (.iastore, 1) := by decide +kernel
theorem dX7_restore_61 : decode cX7_restore 61 = .ok (.iinc 1 1, 3) := by decide +kernel
theorem dX7_restore_64 : decode cX7_restore 64 = .ok (.goto (-39), 3) := by decide +kernel
theorem dX7_restore_67 : decode cX7_restore 67 = .ok (.aload_n 0, 1) := by decide +kernel
theorem dX7_restore_68 : decode cX7_restore 68 = .ok (.getfield 102, 3) := by decide +kernel
theorem dX7_restore_71 : decode cX7_restore 71 = .ok (.ireturn, 1) := by decide +kernel
theorem dX7_together_0 : decode cX7_together 0 = .ok (.iconst 0, 1) := by decide +kernel
theorem dX7_together_1 : decode cX7_together 1 = .ok (.istore_n 2, 1) := by decide +kernel
theorem dX7_together_2 : decode cX7_together 2 = .ok (.iconst 0, 1) := by decide +kernel
theorem dX7_together_3 : decode cX7_together 3 = .ok (.istore_n 3, 1) := by decide +kernel
theorem dX7_together_4 : decode cX7_together 4 = .ok (.iload_n 3, 1) := by decide +kernel
theorem dX7_together_5 : decode cX7_together 5 = .ok (.aload_n 0, 1) := by decide +kernel
theorem dX7_together_6 : decode cX7_together 6 = .ok (.getfield 102, 3) := by decide +kernel
theorem dX7_together_9 : decode cX7_together 9 = .ok (.if_icmp .ge 15, 3) := by decide +kernel
theorem dX7_together_12 : decode cX7_together 12 = .ok (.iload_n 2, 1) := by decide +kernel
theorem dX7_together_13 : decode cX7_together 13 = .ok (.aload_n 1, 1) := by decide +kernel
theorem dX7_together_14 : decode cX7_together 14 = .ok (.iload_n 3, 1) := by decide +kernel
theorem dX7_together_15 : decode cX7_together 15 = .ok (.iaload, 1) := by decide +kernel
theorem dX7_together_16 : decode cX7_together 16 = .ok (.iadd, 1) := by decide +kernel
theorem dX7_together_17 : decode cX7_together 17 = .ok (.istore_n 2, 1) := by decide +kernel
theorem dX7_together_18 : decode cX7_together 18 = .ok (.iinc 3 1, 3) := by decide +kernel
theorem dX7_together_21 : decode cX7_together 21 = .ok (.goto (-17), 3) := by decide +kernel
theorem dX7_together_24 : decode cX7_together 24 = .ok (.iload_n 2, 1) := by decide +kernel
theorem dX7_together_25 : decode cX7_together 25 = .ok (.ireturn, 1) := by decide +kernel
theorem dX7_status_0 : decode cX7_status 0 = .ok (.iload_n 1, 1) := by decide +kernel
theorem dX7_status_1 : decode cX7_status 1 = .ok (.bipush 11, 2) := by decide +kernel
theorem dX7_status_3 : decode cX7_status 3 = .ok (.if_icmp .lt 19, 3) := by decide +kernel
theorem dX7_status_6 : decode cX7_status 6 = .ok (.iload_n 1, 1) := by decide +kernel
theorem dX7_status_7 : decode cX7_status 7 = .ok (.bipush 17, 2) := by decide +kernel
theorem dX7_status_9 : decode cX7_status 9 = .ok (.if_icmp .gt 13, 3) := by decide +kernel
theorem dX7_status_12 : decode cX7_status 12 = .ok (.aload_n 0, 1) := by decide +kernel
theorem dX7_status_13 : decode cX7_status 13 = .ok (.getfield 25, 3) := by decide +kernel
theorem dX7_status_16 : decode cX7_status 16 = .ok (.iload_n 1, 1) := by decide +kernel
theorem dX7_status_17 : decode cX7_status 17 = .ok (.bipush 10, 2) := by decide +kernel
theorem dX7_status_19 : decode cX7_status 19 = .ok (.isub, 1) := by decide +kernel
theorem dX7_status_20 : decode cX7_status 20 = .ok (.iaload, 1) := by decide +kernel
theorem dX7_status_21 : decode cX7_status 21 = .ok (.ireturn, 1) := by decide +kernel
theorem dX7_status_22 : decode cX7_status 22 = .ok (.iload_n 1, 1) := by decide +kernel
theorem dX7_status_23 : decode cX7_status 23 = .ok (.tableswitch 111 0 9 #[53, 58, 63, 68, 73, 78, 83, 92, 101, 106], 53) := by decide +kernel
theorem dX7_status_76 : decode cX7_status 76 = .ok (.aload_n 0, 1) := by decide +kernel
theorem dX7_status_77 : decode cX7_status 77 = .ok (.getfield 102, 3) := by decide +kernel
theorem dX7_status_80 : decode cX7_status 80 = .ok (.ireturn, 1) := by decide +kernel
theorem dX7_status_81 : decode cX7_status 81 = .ok (.aload_n 0, 1) := by decide +kernel
theorem dX7_status_82 : decode cX7_status 82 = .ok (.getfield 7, 3) := by decide +kernel
theorem dX7_status_85 : decode cX7_status 85 = .ok (.ireturn, 1) := by decide +kernel
theorem dX7_status_86 : decode cX7_status 86 = .ok (.aload_n 0, 1) := by decide +kernel
theorem dX7_status_87 : decode cX7_status 87 = .ok (.getfield 131, 3) := by decide +kernel
theorem dX7_status_90 : decode cX7_status 90 = .ok (.ireturn, 1) := by decide +kernel
theorem dX7_status_91 : decode cX7_status 91 = .ok (.aload_n 0, 1) := by decide +kernel
theorem dX7_status_92 : decode cX7_status 92 = .ok (.getfield 13, 3) := by decide +kernel
theorem dX7_status_95 : decode cX7_status 95 = .ok (.ireturn, 1) := by decide +kernel
theorem dX7_status_96 : decode cX7_status 96 = .ok (.aload_n 0, 1) := by decide +kernel
theorem dX7_status_97 : decode cX7_status 97 = .ok (.getfield 16, 3) := by decide +kernel
theorem dX7_status_100 : decode cX7_status 100 = .ok (.ireturn, 1) := by decide +kernel
theorem dX7_status_101 : decode cX7_status 101 = .ok (.aload_n 0, 1) := by decide +kernel
theorem dX7_status_102 : decode cX7_status 102 = .ok (.getfield 183, 3) := by decide +kernel
theorem dX7_status_105 : decode cX7_status 105 = .ok (.ireturn, 1) := by decide +kernel
theorem dX7_status_106 : decode cX7_status 106 = .ok (.aload_n 0, 1) := by decide +kernel
theorem dX7_status_107 : decode cX7_status 107 = .ok (.aload_n 0, 1) := by decide +kernel
theorem dX7_status_108 : decode cX7_status 108 = .ok (.getfield 53, 3) := by decide +kernel
theorem dX7_status_111 : decode cX7_status 111 = .ok (.invokevirtual 289, 3) := by decide +kernel
theorem dX7_status_114 : decode cX7_status 114 = .ok (.ireturn, 1) := by decide +kernel
theorem dX7_status_115 : decode cX7_status 115 = .ok (.aload_n 0, 1) := by decide +kernel
theorem dX7_status_116 : decode cX7_status 116 = .ok (.aload_n 0, 1) := by decide +kernel
theorem dX7_status_117 : decode cX7_status 117 = .ok (.getfield 50, 3) := by decide +kernel
theorem dX7_status_120 : decode cX7_status 120 = .ok (.invokevirtual 289, 3) := by decide +kernel
theorem dX7_status_123 : decode cX7_status 123 = .ok (.ireturn, 1) := by decide +kernel
theorem dX7_status_124 : decode cX7_status 124 = .ok (.aload_n 0, 1) := by decide +kernel
theorem dX7_status_125 : decode cX7_status 125 = .ok (.getfield 19, 3) := by decide +kernel
theorem dX7_status_128 : decode cX7_status 128 = .ok (.ireturn, 1) := by decide +kernel
theorem dX7_status_129 : decode cX7_status 129 = .ok (.aload_n 0, 1) := by decide +kernel
theorem dX7_status_130 : decode cX7_status 130 = .ok (.getfield 271, 3) := by decide +kernel
theorem dX7_status_133 : decode cX7_status 133 = .ok (.ireturn, 1) := by decide +kernel
theorem dX7_status_134 : decode cX7_status 134 = .ok (.iconst (-1), 1) := by decide +kernel
theorem dX7_status_135 : decode cX7_status 135 = .ok (.ireturn, 1) := by decide +kernel
