theorem d_La_law_0 : decode code 0 = .ok (.new 7, 3) := by decide +kernel
theorem d_La_law_3 : decode code 3 = .ok (.dup, 1) := by decide +kernel
theorem d_La_law_4 : decode code 4 = .ok (.invokespecial 9, 3) := by decide +kernel
theorem d_La_law_7 : decode code 7 = .ok (.astore_n 1, 1) := by decide +kernel
theorem d_La_law_8 : decode code 8 = .ok (.new 10, 3) := by decide +kernel
theorem d_La_law_11 : decode code 11 = .ok (.dup, 1) := by decide +kernel
theorem d_La_law_12 : decode code 12 = .ok (.invokespecial 12, 3) := by decide +kernel
theorem d_La_law_15 : decode code 15 = .ok (.astore_n 2, 1) := by decide +kernel
theorem d_La_law_16 : decode code 16 = .ok (.iconst 0, 1) := by decide +kernel
theorem d_La_law_17 : decode code 17 = .ok (.istore_n 3, 1) := by decide +kernel
theorem d_La_law_18 : decode code 18 = .ok (.iload_n 3, 1) := by decide +kernel
theorem d_La_law_19 : decode code 19 = .ok (.aload_n 0, 1) := by decide +kernel
theorem d_La_law_20 : decode code 20 = .ok (.arraylength, 1) := by decide +kernel
theorem d_La_law_21 : decode code 21 = .ok (.iconst 4, 1) := by decide +kernel
theorem d_La_law_22 : decode code 22 = .ok (.isub, 1) := by decide +kernel
theorem d_La_law_23 : decode code 23 = .ok (.if_icmp .gt 455, 3) := by decide +kernel
theorem d_La_law_26 : decode code 26 = .ok (.aload_n 0, 1) := by decide +kernel
theorem d_La_law_27 : decode code 27 = .ok (.iload_n 3, 1) := by decide +kernel
theorem d_La_law_28 : decode code 28 = .ok (.iaload, 1) := by decide +kernel
theorem d_La_law_29 : decode code 29 = .ok (.bipush 15, 2) := by decide +kernel
theorem d_La_law_31 : decode code 31 = .ok (.iand, 1) := by decide +kernel
theorem d_La_law_32 : decode code 32 = .ok (.tableswitch 440 0 10 #[60, 93, 126, 139, 162, 175, 224, 257, 291, 354, 377], 60) := by decide +kernel
theorem d_La_law_92 : decode code 92 = .ok (.aload_n 1, 1) := by decide +kernel
theorem d_La_law_93 : decode code 93 = .ok (.aload_n 0, 1) := by decide +kernel
theorem d_La_law_94 : decode code 94 = .ok (.iload_n 3, 1) := by decide +kernel
theorem d_La_law_95 : decode code 95 = .ok (.iconst 1, 1) := by decide +kernel
theorem d_La_law_96 : decode code 96 = .ok (.iadd, 1) := by decide +kernel
theorem d_La_law_97 : decode code 97 = .ok (.iaload, 1) := by decide +kernel
theorem d_La_law_98 : decode code 98 = .ok (.aload_n 0, 1) := by decide +kernel
theorem d_La_law_99 : decode code 99 = .ok (.iload_n 3, 1) := by decide +kernel
theorem d_La_law_100 : decode code 100 = .ok (.iconst 2, 1) := by decide +kernel
theorem d_La_law_101 : decode code 101 = .ok (.iadd, 1) := by decide +kernel
theorem d_La_law_102 : decode code 102 = .ok (.iaload, 1) := by decide +kernel
theorem d_La_law_103 : decode code 103 = .ok (.invokevirtual 13, 3) := by decide +kernel
theorem d_La_law_106 : decode code 106 = .ok (.pop, 1) := by decide +kernel
theorem d_La_law_107 : decode code 107 = .ok (.aload_n 2, 1) := by decide +kernel
theorem d_La_law_108 : decode code 108 = .ok (.aload_n 0, 1) := by decide +kernel
theorem d_La_law_109 : decode code 109 = .ok (.iload_n 3, 1) := by decide +kernel
theorem d_La_law_110 : decode code 110 = .ok (.iconst 1, 1) := by decide +kernel
theorem d_La_law_111 : decode code 111 = .ok (.iadd, 1) := by decide +kernel
theorem d_La_law_112 : decode code 112 = .ok (.iaload, 1) := by decide +kernel
theorem d_La_law_113 : decode code 113 = .ok (.aload_n 0, 1) := by decide +kernel
theorem d_La_law_114 : decode code 114 = .ok (.iload_n 3, 1) := by decide +kernel
theorem d_La_law_115 : decode code 115 = .ok (.iconst 2, 1) := by decide +kernel
theorem d_La_law_116 : decode code 116 = .ok (.iadd, 1) := by decide +kernel
theorem d_La_law_117 : decode code 117 = .ok (.iaload, 1) := by decide +kernel
theorem d_La_law_118 : decode code 118 = .ok (.invokevirtual 17, 3) := by decide +kernel
theorem d_La_law_121 : decode code 121 = .ok (.pop, 1) := by decide +kernel
theorem d_La_law_122 : decode code 122 = .ok (.goto 350, 3) := by decide +kernel
theorem d_La_law_125 : decode code 125 = .ok (.aload_n 1, 1) := by decide +kernel
theorem d_La_law_126 : decode code 126 = .ok (.aload_n 0, 1) := by decide +kernel
theorem d_La_law_127 : decode code 127 = .ok (.iload_n 3, 1) := by decide +kernel
theorem d_La_law_128 : decode code 128 = .ok (.iconst 1, 1) := by decide +kernel
theorem d_La_law_129 : decode code 129 = .ok (.iadd, 1) := by decide +kernel
theorem d_La_law_130 : decode code 130 = .ok (.iaload, 1) := by decide +kernel
theorem d_La_law_131 : decode code 131 = .ok (.aload_n 0, 1) := by decide +kernel
theorem d_La_law_132 : decode code 132 = .ok (.iload_n 3, 1) := by decide +kernel
theorem d_La_law_133 : decode code 133 = .ok (.iconst 2, 1) := by decide +kernel
theorem d_La_law_134 : decode code 134 = .ok (.iadd, 1) := by decide +kernel
theorem d_La_law_135 : decode code 135 = .ok (.iaload, 1) := by decide +kernel
theorem d_La_law_136 : decode code 136 = .ok (.invokevirtual 18, 3) := by decide +kernel
theorem d_La_law_139 : decode code 139 = .ok (.pop, 1) := by decide +kernel
theorem d_La_law_140 : decode code 140 = .ok (.aload_n 2, 1) := by decide +kernel
theorem d_La_law_141 : decode code 141 = .ok (.aload_n 0, 1) := by decide +kernel
theorem d_La_law_142 : decode code 142 = .ok (.iload_n 3, 1) := by decide +kernel
theorem d_La_law_143 : decode code 143 = .ok (.iconst 1, 1) := by decide +kernel
theorem d_La_law_144 : decode code 144 = .ok (.iadd, 1) := by decide +kernel
theorem d_La_law_145 : decode code 145 = .ok (.iaload, 1) := by decide +kernel
theorem d_La_law_146 : decode code 146 = .ok (.aload_n 0, 1) := by decide +kernel
theorem d_La_law_147 : decode code 147 = .ok (.iload_n 3, 1) := by decide +kernel
theorem d_La_law_148 : decode code 148 = .ok (.iconst 2, 1) := by decide +kernel
theorem d_La_law_149 : decode code 149 = .ok (.iadd, 1) := by decide +kernel
theorem d_La_law_150 : decode code 150 = .ok (.iaload, 1) := by decide +kernel
theorem d_La_law_151 : decode code 151 = .ok (.invokevirtual 22, 3) := by decide +kernel
theorem d_La_law_154 : decode code 154 = .ok (.pop, 1) := by decide +kernel
theorem d_La_law_155 : decode code 155 = .ok (.goto 317, 3) := by decide +kernel
theorem d_La_law_158 : decode code 158 = .ok (.aload_n 1, 1) := by decide +kernel
theorem d_La_law_159 : decode code 159 = .ok (.invokevirtual 23, 3) := by decide +kernel
theorem d_La_law_162 : decode code 162 = .ok (.pop, 1) := by decide +kernel
theorem d_La_law_163 : decode code 163 = .ok (.aload_n 2, 1) := by decide +kernel
theorem d_La_law_164 : decode code 164 = .ok (.invokevirtual 27, 3) := by decide +kernel
theorem d_La_law_167 : decode code 167 = .ok (.pop, 1) := by decide +kernel
theorem d_La_law_168 : decode code 168 = .ok (.goto 304, 3) := by decide +kernel
theorem d_La_law_171 : decode code 171 = .ok (.aload_n 1, 1) := by decide +kernel
theorem d_La_law_172 : decode code 172 = .ok (.aload_n 0, 1) := by decide +kernel
theorem d_La_law_173 : decode code 173 = .ok (.iload_n 3, 1) := by decide +kernel
theorem d_La_law_174 : decode code 174 = .ok (.iconst 1, 1) := by decide +kernel
theorem d_La_law_175 : decode code 175 = .ok (.iadd, 1) := by decide +kernel
theorem d_La_law_176 : decode code 176 = .ok (.iaload, 1) := by decide +kernel
theorem d_La_law_177 : decode code 177 = .ok (.invokevirtual 28, 3) := by decide +kernel
theorem d_La_law_180 : decode code 180 = .ok (.pop, 1) := by decide +kernel
theorem d_La_law_181 : decode code 181 = .ok (.aload_n 2, 1) := by decide +kernel
theorem d_La_law_182 : decode code 182 = .ok (.aload_n 0, 1) := by decide +kernel
theorem d_La_law_183 : decode code 183 = .ok (.iload_n 3, 1) := by decide +kernel
theorem d_La_law_184 : decode code 184 = .ok (.iconst 1, 1) := by decide +kernel
theorem d_La_law_185 : decode code 185 = .ok (.iadd, 1) := by decide +kernel
theorem d_La_law_186 : decode code 186 = .ok (.iaload, 1) := by decide +kernel
theorem d_La_law_187 : decode code 187 = .ok (.invokevirtual 32, 3) := by decide +kernel
theorem d_La_law_190 : decode code 190 = .ok (.pop, 1) := by decide +kernel
theorem d_La_law_191 : decode code 191 = .ok (.goto 281, 3) := by decide +kernel
theorem d_La_law_194 : decode code 194 = .ok (.aload_n 1, 1) := by decide +kernel
theorem d_La_law_195 : decode code 195 = .ok (.invokevirtual 33, 3) := by decide +kernel
theorem d_La_law_198 : decode code 198 = .ok (.pop, 1) := by decide +kernel
theorem d_La_law_199 : decode code 199 = .ok (.aload_n 2, 1) := by decide +kernel
theorem d_La_law_200 : decode code 200 = .ok (.invokevirtual 36, 3) := by decide +kernel
theorem d_La_law_203 : decode code 203 = .ok (.pop, 1) := by decide +kernel
theorem d_La_law_204 : decode code 204 = .ok (.goto 268, 3) := by decide +kernel
theorem d_La_law_207 : decode code 207 = .ok (.aload_n 1, 1) := by decide +kernel
theorem d_La_law_208 : decode code 208 = .ok (.aload_n 0, 1) := by decide +kernel
theorem d_La_law_209 : decode code 209 = .ok (.iload_n 3, 1) := by decide +kernel
theorem d_La_law_210 : decode code 210 = .ok (.iconst 1, 1) := by decide +kernel
theorem d_La_law_211 : decode code 211 = .ok (.iadd, 1) := by decide +kernel
theorem d_La_law_212 : decode code 212 = .ok (.iaload, 1) := by decide +kernel
theorem d_La_law_213 : decode code 213 = .ok (.aload_n 0, 1) := by decide +kernel
theorem d_La_law_214 : decode code 214 = .ok (.iload_n 3, 1) := by decide +kernel
theorem d_La_law_215 : decode code 215 = .ok (.iconst 2, 1) := by decide +kernel
theorem d_La_law_216 : decode code 216 = .ok (.iadd, 1) := by decide +kernel
theorem d_La_law_217 : decode code 217 = .ok (.iaload, 1) := by decide +kernel
theorem d_La_law_218 : decode code 218 = .ok (.ifCond .eq 7, 3) := by decide +kernel
theorem d_La_law_221 : decode code 221 = .ok (.iconst 1, 1) := by decide +kernel
theorem d_La_law_222 : decode code 222 = .ok (.goto 4, 3) := by decide +kernel
theorem d_La_law_225 : decode code 225 = .ok (.iconst 0, 1) := by decide +kernel
theorem d_La_law_226 : decode code 226 = .ok (.invokevirtual 37, 3) := by decide +kernel
theorem d_La_law_229 : decode code 229 = .ok (.pop, 1) := by decide +kernel
theorem d_La_law_230 : decode code 230 = .ok (.aload_n 2, 1) := by decide +kernel
theorem d_La_law_231 : decode code 231 = .ok (.aload_n 0, 1) := by decide +kernel
theorem d_La_law_232 : decode code 232 = .ok (.iload_n 3, 1) := by decide +kernel
theorem d_La_law_233 : decode code 233 = .ok (.iconst 1, 1) := by decide +kernel
theorem d_La_law_234 : decode code 234 = .ok (.iadd, 1) := by decide +kernel
theorem d_La_law_235 : decode code 235 = .ok (.iaload, 1) := by decide +kernel
theorem d_La_law_236 : decode code 236 = .ok (.aload_n 0, 1) := by decide +kernel
theorem d_La_law_237 : decode code 237 = .ok (.iload_n 3, 1) := by decide +kernel
theorem d_La_law_238 : decode code 238 = .ok (.iconst 2, 1) := by decide +kernel
theorem d_La_law_239 : decode code 239 = .ok (.iadd, 1) := by decide +kernel
theorem d_La_law_240 : decode code 240 = .ok (.iaload, 1) := by decide +kernel
theorem d_La_law_241 : decode code 241 = .ok (.ifCond .eq 7, 3) := by decide +kernel
theorem d_La_law_244 : decode code 244 = .ok (.iconst 1, 1) := by decide +kernel
theorem d_La_law_245 : decode code 245 = .ok (.goto 4, 3) := by decide +kernel
theorem d_La_law_248 : decode code 248 = .ok (.iconst 0, 1) := by decide +kernel
theorem d_La_law_249 : decode code 249 = .ok (.invokevirtual 41, 3) := by decide +kernel
theorem d_La_law_252 : decode code 252 = .ok (.pop, 1) := by decide +kernel
theorem d_La_law_253 : decode code 253 = .ok (.goto 219, 3) := by decide +kernel
theorem d_La_law_256 : decode code 256 = .ok (.aload_n 1, 1) := by decide +kernel
theorem d_La_law_257 : decode code 257 = .ok (.aload_n 0, 1) := by decide +kernel
theorem d_La_law_258 : decode code 258 = .ok (.iload_n 3, 1) := by decide +kernel
theorem d_La_law_259 : decode code 259 = .ok (.iconst 1, 1) := by decide +kernel
theorem d_La_law_260 : decode code 260 = .ok (.iadd, 1) := by decide +kernel
theorem d_La_law_261 : decode code 261 = .ok (.iaload, 1) := by decide +kernel
theorem d_La_law_262 : decode code 262 = .ok (.aload_n 0, 1) := by decide +kernel
theorem d_La_law_263 : decode code 263 = .ok (.iload_n 3, 1) := by decide +kernel
theorem d_La_law_264 : decode code 264 = .ok (.iconst 2, 1) := by decide +kernel
theorem d_La_law_265 : decode code 265 = .ok (.iadd, 1) := by decide +kernel
theorem d_La_law_266 : decode code 266 = .ok (.iaload, 1) := by decide +kernel
theorem d_La_law_267 : decode code 267 = .ok (.invokevirtual 42, 3) := by decide +kernel
theorem d_La_law_270 : decode code 270 = .ok (.pop, 1) := by decide +kernel
theorem d_La_law_271 : decode code 271 = .ok (.aload_n 2, 1) := by decide +kernel
theorem d_La_law_272 : decode code 272 = .ok (.aload_n 0, 1) := by decide +kernel
theorem d_La_law_273 : decode code 273 = .ok (.iload_n 3, 1) := by decide +kernel
theorem d_La_law_274 : decode code 274 = .ok (.iconst 1, 1) := by decide +kernel
theorem d_La_law_275 : decode code 275 = .ok (.iadd, 1) := by decide +kernel
theorem d_La_law_276 : decode code 276 = .ok (.iaload, 1) := by decide +kernel
theorem d_La_law_277 : decode code 277 = .ok (.aload_n 0, 1) := by decide +kernel
theorem d_La_law_278 : decode code 278 = .ok (.iload_n 3, 1) := by decide +kernel
theorem d_La_law_279 : decode code 279 = .ok (.iconst 2, 1) := by decide +kernel
theorem d_La_law_280 : decode code 280 = .ok (.iadd, 1) := by decide +kernel
theorem d_La_law_281 : decode code 281 = .ok (.iaload, 1) := by decide +kernel
theorem d_La_law_282 : decode code 282 = .ok (.invokevirtual 45, 3) := by decide +kernel
theorem d_La_law_285 : decode code 285 = .ok (.pop, 1) := by decide +kernel
theorem d_La_law_286 : decode code 286 = .ok (.goto 186, 3) := by decide +kernel
theorem d_La_law_289 : decode code 289 = .ok (.aload_n 1, 1) := by decide +kernel
theorem d_La_law_290 : decode code 290 = .ok (.aload_n 0, 1) := by decide +kernel
theorem d_La_law_291 : decode code 291 = .ok (.iload_n 3, 1) := by decide +kernel
theorem d_La_law_292 : decode code 292 = .ok (.iconst 1, 1) := by decide +kernel
theorem d_La_law_293 : decode code 293 = .ok (.iadd, 1) := by decide +kernel
theorem d_La_law_294 : decode code 294 = .ok (.iaload, 1) := by decide +kernel
theorem d_La_law_295 : decode code 295 = .ok (.aload_n 0, 1) := by decide +kernel
theorem d_La_law_296 : decode code 296 = .ok (.iload_n 3, 1) := by decide +kernel
theorem d_La_law_297 : decode code 297 = .ok (.iconst 2, 1) := by decide +kernel
theorem d_La_law_298 : decode code 298 = .ok (.iadd, 1) := by decide +kernel
theorem d_La_law_299 : decode code 299 = .ok (.iaload, 1) := by decide +kernel
theorem d_La_law_300 : decode code 300 = .ok (.invokevirtual 46, 3) := by decide +kernel
theorem d_La_law_303 : decode code 303 = .ok (.aload_n 2, 1) := by decide +kernel
theorem d_La_law_304 : decode code 304 = .ok (.aload_n 0, 1) := by decide +kernel
theorem d_La_law_305 : decode code 305 = .ok (.iload_n 3, 1) := by decide +kernel
theorem d_La_law_306 : decode code 306 = .ok (.iconst 1, 1) := by decide +kernel
theorem d_La_law_307 : decode code 307 = .ok (.iadd, 1) := by decide +kernel
theorem d_La_law_308 : decode code 308 = .ok (.iaload, 1) := by decide +kernel
theorem d_La_law_309 : decode code 309 = .ok (.aload_n 0, 1) := by decide +kernel
theorem d_La_law_310 : decode code 310 = .ok (.iload_n 3, 1) := by decide +kernel
theorem d_La_law_311 : decode code 311 = .ok (.iconst 2, 1) := by decide +kernel
theorem d_La_law_312 : decode code 312 = .ok (.iadd, 1) := by decide +kernel
theorem d_La_law_313 : decode code 313 = .ok (.iaload, 1) := by decide +kernel
theorem d_La_law_314 : decode code 314 = .ok (.invokevirtual 50, 3) := by decide +kernel
theorem d_La_law_317 : decode code 317 = .ok (.lcmp, 1) := by decide +kernel
theorem d_La_law_318 : decode code 318 = .ok (.ifCond .eq 154, 3) := by decide +kernel
theorem d_La_law_321 : decode code 321 = .ok (.iconst 0, 1) := by decide +kernel
theorem d_La_law_322 : decode code 322 = .ok (.ireturn, 1) := by decide +kernel
theorem d_La_law_323 : decode code 323 = .ok (.aload_n 1, 1) := by decide +kernel
theorem d_La_law_324 : decode code 324 = .ok (.aload_n 0, 1) := by decide +kernel
theorem d_La_law_325 : decode code 325 = .ok (.iload_n 3, 1) := by decide +kernel
theorem d_La_law_326 : decode code 326 = .ok (.iconst 1, 1) := by decide +kernel
theorem d_La_law_327 : decode code 327 = .ok (.iadd, 1) := by decide +kernel
theorem d_La_law_328 : decode code 328 = .ok (.iaload, 1) := by decide +kernel
theorem d_La_law_329 : decode code 329 = .ok (.i2l, 1) := by decide +kernel
theorem d_La_law_330 : decode code 330 = .ok (.bipush 32, 2) := by decide +kernel
theorem d_La_law_332 : decode code 332 = .ok (.lshl, 1) := by decide +kernel
theorem d_La_law_333 : decode code 333 = .ok (.aload_n 0, 1) := by decide +kernel
theorem d_La_law_334 : decode code 334 = .ok (.iload_n 3, 1) := by decide +kernel
theorem d_La_law_335 : decode code 335 = .ok (.iconst 2, 1) := by decide +kernel
theorem d_La_law_336 : decode code 336 = .ok (.iadd, 1) := by decide +kernel
theorem d_La_law_337 : decode code 337 = .ok (.iaload, 1) := by decide +kernel
theorem d_La_law_338 : decode code 338 = .ok (.i2l, 1) := by decide +kernel
theorem d_La_law_339 : decode code 339 = .ok (.ldc2_w 51, 3) := by decide +kernel
theorem d_La_law_342 : decode code 342 = .ok (.land, 1) := by decide +kernel
theorem d_La_law_343 : decode code 343 = .ok (.lor, 1) := by decide +kernel
theorem d_La_law_344 : decode code 344 = .ok (.aload_n 0, 1) := by decide +kernel
theorem d_La_law_345 : decode code 345 = .ok (.iload_n 3, 1) := by decide +kernel
theorem d_La_law_346 : decode code 346 = .ok (.iconst 3, 1) := by decide +kernel
theorem d_La_law_347 : decode code 347 = .ok (.iadd, 1) := by decide +kernel
theorem d_La_law_348 : decode code 348 = .ok (.iaload, 1) := by decide +kernel
theorem d_La_law_349 : decode code 349 = .ok (.invokevirtual 53, 3) := by decide +kernel
theorem d_La_law_352 : decode code 352 = .ok (.pop, 1) := by decide +kernel
theorem d_La_law_353 : decode code 353 = .ok (.aload_n 2, 1) := by decide +kernel
theorem d_La_law_354 : decode code 354 = .ok (.aload_n 0, 1) := by decide +kernel
theorem d_La_law_355 : decode code 355 = .ok (.iload_n 3, 1) := by decide +kernel
theorem d_La_law_356 : decode code 356 = .ok (.iconst 1, 1) := by decide +kernel
theorem d_La_law_357 : decode code 357 = .ok (.iadd, 1) := by decide +kernel
theorem d_La_law_358 : decode code 358 = .ok (.iaload, 1) := by decide +kernel
theorem d_La_law_359 : decode code 359 = .ok (.i2l, 1) := by decide +kernel
theorem d_La_law_360 : decode code 360 = .ok (.bipush 32, 2) := by decide +kernel
theorem d_La_law_362 : decode code 362 = .ok (.lshl, 1) := by decide +kernel
theorem d_La_law_363 : decode code 363 = .ok (.aload_n 0, 1) := by decide +kernel
theorem d_La_law_364 : decode code 364 = .ok (.iload_n 3, 1) := by decide +kernel
theorem d_La_law_365 : decode code 365 = .ok (.iconst 2, 1) := by decide +kernel
theorem d_La_law_366 : decode code 366 = .ok (.iadd, 1) := by decide +kernel
theorem d_La_law_367 : decode code 367 = .ok (.iaload, 1) := by decide +kernel
theorem d_La_law_368 : decode code 368 = .ok (.i2l, 1) := by decide +kernel
theorem d_La_law_369 : decode code 369 = .ok (.ldc2_w 51, 3) := by decide +kernel
theorem d_La_law_372 : decode code 372 = .ok (.land, 1) := by decide +kernel
theorem d_La_law_373 : decode code 373 = .ok (.lor, 1) := by decide +kernel
theorem d_La_law_374 : decode code 374 = .ok (.aload_n 0, 1) := by decide +kernel
theorem d_La_law_375 : decode code 375 = .ok (.iload_n 3, 1) := by decide +kernel
theorem d_La_law_376 : decode code 376 = .ok (.iconst 3, 1) := by decide +kernel
theorem d_La_law_377 : decode code 377 = .ok (.iadd, 1) := by decide +kernel
theorem d_La_law_378 : decode code 378 = .ok (.iaload, 1) := by decide +kernel
theorem d_La_law_379 : decode code 379 = .ok (.invokevirtual 57, 3) := by decide +kernel
theorem d_La_law_382 : decode code 382 = .ok (.pop, 1) := by decide +kernel
theorem d_La_law_383 : decode code 383 = .ok (.goto 89, 3) := by decide +kernel
theorem d_La_law_386 : decode code 386 = .ok (.aload_n 1, 1) := by decide +kernel
theorem d_La_law_387 : decode code 387 = .ok (.aload_n 0, 1) := by decide +kernel
theorem d_La_law_388 : decode code 388 = .ok (.iload_n 3, 1) := by decide +kernel
theorem d_La_law_389 : decode code 389 = .ok (.iconst 1, 1) := by decide +kernel
theorem d_La_law_390 : decode code 390 = .ok (.iadd, 1) := by decide +kernel
theorem d_La_law_391 : decode code 391 = .ok (.iaload, 1) := by decide +kernel
theorem d_La_law_392 : decode code 392 = .ok (.invokevirtual 58, 3) := by decide +kernel
theorem d_La_law_395 : decode code 395 = .ok (.pop2, 1) := by decide +kernel
theorem d_La_law_396 : decode code 396 = .ok (.aload_n 2, 1) := by decide +kernel
theorem d_La_law_397 : decode code 397 = .ok (.aload_n 0, 1) := by decide +kernel
theorem d_La_law_398 : decode code 398 = .ok (.iload_n 3, 1) := by decide +kernel
theorem d_La_law_399 : decode code 399 = .ok (.iconst 1, 1) := by decide +kernel
theorem d_La_law_400 : decode code 400 = .ok (.iadd, 1) := by decide +kernel
theorem d_La_law_401 : decode code 401 = .ok (.iaload, 1) := by decide +kernel
theorem d_La_law_402 : decode code 402 = .ok (.invokevirtual 62, 3) := by decide +kernel
theorem d_La_law_405 : decode code 405 = .ok (.pop2, 1) := by decide +kernel
theorem d_La_law_406 : decode code 406 = .ok (.goto 66, 3) := by decide +kernel
theorem d_La_law_409 : decode code 409 = .ok (.aload_n 1, 1) := by decide +kernel
theorem d_La_law_410 : decode code 410 = .ok (.aload_n 0, 1) := by decide +kernel
theorem d_La_law_411 : decode code 411 = .ok (.iload_n 3, 1) := by decide +kernel
theorem d_La_law_412 : decode code 412 = .ok (.iconst 1, 1) := by decide +kernel
theorem d_La_law_413 : decode code 413 = .ok (.iadd, 1) := by decide +kernel
theorem d_La_law_414 : decode code 414 = .ok (.iaload, 1) := by decide +kernel
theorem d_La_law_415 : decode code 415 = .ok (.aload_n 0, 1) := by decide +kernel
theorem d_La_law_416 : decode code 416 = .ok (.iload_n 3, 1) := by decide +kernel
theorem d_La_law_417 : decode code 417 = .ok (.iconst 2, 1) := by decide +kernel
theorem d_La_law_418 : decode code 418 = .ok (.iadd, 1) := by decide +kernel
theorem d_La_law_419 : decode code 419 = .ok (.iaload, 1) := by decide +kernel
theorem d_La_law_420 : decode code 420 = .ok (.i2l, 1) := by decide +kernel
theorem d_La_law_421 : decode code 421 = .ok (.bipush 32, 2) := by decide +kernel
theorem d_La_law_423 : decode code 423 = .ok (.lshl, 1) := by decide +kernel
theorem d_La_law_424 : decode code 424 = .ok (.aload_n 0, 1) := by decide +kernel
theorem d_La_law_425 : decode code 425 = .ok (.iload_n 3, 1) := by decide +kernel
theorem d_La_law_426 : decode code 426 = .ok (.iconst 3, 1) := by decide +kernel
theorem d_La_law_427 : decode code 427 = .ok (.iadd, 1) := by decide +kernel
theorem d_La_law_428 : decode code 428 = .ok (.iaload, 1) := by decide +kernel
theorem d_La_law_429 : decode code 429 = .ok (.i2l, 1) := by decide +kernel
theorem d_La_law_430 : decode code 430 = .ok (.ldc2_w 51, 3) := by decide +kernel
theorem d_La_law_433 : decode code 433 = .ok (.land, 1) := by decide +kernel
theorem d_La_law_434 : decode code 434 = .ok (.lor, 1) := by decide +kernel
theorem d_La_law_435 : decode code 435 = .ok (.invokevirtual 63, 3) := by decide +kernel
theorem d_La_law_438 : decode code 438 = .ok (.pop2, 1) := by decide +kernel
theorem d_La_law_439 : decode code 439 = .ok (.aload_n 2, 1) := by decide +kernel
theorem d_La_law_440 : decode code 440 = .ok (.aload_n 0, 1) := by decide +kernel
theorem d_La_law_441 : decode code 441 = .ok (.iload_n 3, 1) := by decide +kernel
theorem d_La_law_442 : decode code 442 = .ok (.iconst 1, 1) := by decide +kernel
theorem d_La_law_443 : decode code 443 = .ok (.iadd, 1) := by decide +kernel
theorem d_La_law_444 : decode code 444 = .ok (.iaload, 1) := by decide +kernel
theorem d_La_law_445 : decode code 445 = .ok (.aload_n 0, 1) := by decide +kernel
theorem d_La_law_446 : decode code 446 = .ok (.iload_n 3, 1) := by decide +kernel
theorem d_La_law_447 : decode code 447 = .ok (.iconst 2, 1) := by decide +kernel
theorem d_La_law_448 : decode code 448 = .ok (.iadd, 1) := by decide +kernel
theorem d_La_law_449 : decode code 449 = .ok (.iaload, 1) := by decide +kernel
theorem d_La_law_450 : decode code 450 = .ok (.i2l, 1) := by decide +kernel
theorem d_La_law_451 : decode code 451 = .ok (.bipush 32, 2) := by decide +kernel
theorem d_La_law_453 : decode code 453 = .ok (.lshl, 1) := by decide +kernel
theorem d_La_law_454 : decode code 454 = .ok (.aload_n 0, 1) := by decide +kernel
theorem d_La_law_455 : decode code 455 = .ok (.iload_n 3, 1) := by decide +kernel
theorem d_La_law_456 : decode code 456 = .ok (.iconst 3, 1) := by decide +kernel
theorem d_La_law_457 : decode code 457 = .ok (.iadd, 1) := by decide +kernel
theorem d_La_law_458 : decode code 458 = .ok (.iaload, 1) := by decide +kernel
theorem d_La_law_459 : decode code 459 = .ok (.i2l, 1) := by decide +kernel
theorem d_La_law_460 : decode code 460 = .ok (.ldc2_w 51, 3) := by decide +kernel
theorem d_La_law_463 : decode code 463 = .ok (.land, 1) := by decide +kernel
theorem d_La_law_464 : decode code 464 = .ok (.lor, 1) := by decide +kernel
theorem d_La_law_465 : decode code 465 = .ok (.invokevirtual 67, 3) := by decide +kernel
theorem d_La_law_468 : decode code 468 = .ok (.pop2, 1) := by decide +kernel
theorem d_La_law_469 : decode code 469 = .ok (.goto 3, 3) := by decide +kernel
theorem d_La_law_472 : decode code 472 = .ok (.iinc 3 4, 3) := by decide +kernel
theorem d_La_law_475 : decode code 475 = .ok (.goto (-457), 3) := by decide +kernel
theorem d_La_law_478 : decode code 478 = .ok (.iconst 1, 1) := by decide +kernel
theorem d_La_law_479 : decode code 479 = .ok (.ireturn, 1) := by decide +kernel
