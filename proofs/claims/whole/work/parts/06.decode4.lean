theorem d_L_law_0 : decode code 0 = .ok (.new 7, 3) := by decide +kernel
theorem d_L_law_3 : decode code 3 = .ok (.dup, 1) := by decide +kernel
theorem d_L_law_4 : decode code 4 = .ok (.invokespecial 9, 3) := by decide +kernel
theorem d_L_law_7 : decode code 7 = .ok (.astore_n 1, 1) := by decide +kernel
theorem d_L_law_8 : decode code 8 = .ok (.new 10, 3) := by decide +kernel
theorem d_L_law_11 : decode code 11 = .ok (.dup, 1) := by decide +kernel
theorem d_L_law_12 : decode code 12 = .ok (.invokespecial 12, 3) := by decide +kernel
theorem d_L_law_15 : decode code 15 = .ok (.astore_n 2, 1) := by decide +kernel
theorem d_L_law_16 : decode code 16 = .ok (.iconst 0, 1) := by decide +kernel
theorem d_L_law_17 : decode code 17 = .ok (.istore_n 3, 1) := by decide +kernel
theorem d_L_law_18 : decode code 18 = .ok (.iload_n 3, 1) := by decide +kernel
theorem d_L_law_19 : decode code 19 = .ok (.aload_n 0, 1) := by decide +kernel
theorem d_L_law_20 : decode code 20 = .ok (.arraylength, 1) := by decide +kernel
theorem d_L_law_21 : decode code 21 = .ok (.iconst 3, 1) := by decide +kernel
theorem d_L_law_22 : decode code 22 = .ok (.isub, 1) := by decide +kernel
theorem d_L_law_23 : decode code 23 = .ok (.if_icmp .gt 399, 3) := by decide +kernel
theorem d_L_law_26 : decode code 26 = .ok (.aload_n 0, 1) := by decide +kernel
theorem d_L_law_27 : decode code 27 = .ok (.iload_n 3, 1) := by decide +kernel
theorem d_L_law_28 : decode code 28 = .ok (.iaload, 1) := by decide +kernel
theorem d_L_law_29 : decode code 29 = .ok (.bipush 15, 2) := by decide +kernel
theorem d_L_law_31 : decode code 31 = .ok (.iand, 1) := by decide +kernel
theorem d_L_law_32 : decode code 32 = .ok (.tableswitch 384 0 15 #[80, 103, 136, 169, 192, 213, 236, 249, 262, 273, 296, 309, 322, 345, 358, 371], 80) := by decide +kernel
theorem d_L_law_112 : decode code 112 = .ok (.aload_n 1, 1) := by decide +kernel
theorem d_L_law_113 : decode code 113 = .ok (.aload_n 0, 1) := by decide +kernel
theorem d_L_law_114 : decode code 114 = .ok (.iload_n 3, 1) := by decide +kernel
theorem d_L_law_115 : decode code 115 = .ok (.iconst 1, 1) := by decide +kernel
theorem d_L_law_116 : decode code 116 = .ok (.iadd, 1) := by decide +kernel
theorem d_L_law_117 : decode code 117 = .ok (.iaload, 1) := by decide +kernel
theorem d_L_law_118 : decode code 118 = .ok (.invokevirtual 13, 3) := by decide +kernel
theorem d_L_law_121 : decode code 121 = .ok (.aload_n 2, 1) := by decide +kernel
theorem d_L_law_122 : decode code 122 = .ok (.aload_n 0, 1) := by decide +kernel
theorem d_L_law_123 : decode code 123 = .ok (.iload_n 3, 1) := by decide +kernel
theorem d_L_law_124 : decode code 124 = .ok (.iconst 1, 1) := by decide +kernel
theorem d_L_law_125 : decode code 125 = .ok (.iadd, 1) := by decide +kernel
theorem d_L_law_126 : decode code 126 = .ok (.iaload, 1) := by decide +kernel
theorem d_L_law_127 : decode code 127 = .ok (.invokevirtual 17, 3) := by decide +kernel
theorem d_L_law_130 : decode code 130 = .ok (.if_icmp .eq 286, 3) := by decide +kernel
theorem d_L_law_133 : decode code 133 = .ok (.iconst 0, 1) := by decide +kernel
theorem d_L_law_134 : decode code 134 = .ok (.ireturn, 1) := by decide +kernel
theorem d_L_law_135 : decode code 135 = .ok (.aload_n 1, 1) := by decide +kernel
theorem d_L_law_136 : decode code 136 = .ok (.aload_n 0, 1) := by decide +kernel
theorem d_L_law_137 : decode code 137 = .ok (.iload_n 3, 1) := by decide +kernel
theorem d_L_law_138 : decode code 138 = .ok (.iconst 1, 1) := by decide +kernel
theorem d_L_law_139 : decode code 139 = .ok (.iadd, 1) := by decide +kernel
theorem d_L_law_140 : decode code 140 = .ok (.iaload, 1) := by decide +kernel
theorem d_L_law_141 : decode code 141 = .ok (.aload_n 0, 1) := by decide +kernel
theorem d_L_law_142 : decode code 142 = .ok (.iload_n 3, 1) := by decide +kernel
theorem d_L_law_143 : decode code 143 = .ok (.iconst 2, 1) := by decide +kernel
theorem d_L_law_144 : decode code 144 = .ok (.iadd, 1) := by decide +kernel
theorem d_L_law_145 : decode code 145 = .ok (.iaload, 1) := by decide +kernel
theorem d_L_law_146 : decode code 146 = .ok (.invokevirtual 18, 3) := by decide +kernel
theorem d_L_law_149 : decode code 149 = .ok (.aload_n 2, 1) := by decide +kernel
theorem d_L_law_150 : decode code 150 = .ok (.aload_n 0, 1) := by decide +kernel
theorem d_L_law_151 : decode code 151 = .ok (.iload_n 3, 1) := by decide +kernel
theorem d_L_law_152 : decode code 152 = .ok (.iconst 1, 1) := by decide +kernel
theorem d_L_law_153 : decode code 153 = .ok (.iadd, 1) := by decide +kernel
theorem d_L_law_154 : decode code 154 = .ok (.iaload, 1) := by decide +kernel
theorem d_L_law_155 : decode code 155 = .ok (.aload_n 0, 1) := by decide +kernel
theorem d_L_law_156 : decode code 156 = .ok (.iload_n 3, 1) := by decide +kernel
theorem d_L_law_157 : decode code 157 = .ok (.iconst 2, 1) := by decide +kernel
theorem d_L_law_158 : decode code 158 = .ok (.iadd, 1) := by decide +kernel
theorem d_L_law_159 : decode code 159 = .ok (.iaload, 1) := by decide +kernel
theorem d_L_law_160 : decode code 160 = .ok (.invokevirtual 22, 3) := by decide +kernel
theorem d_L_law_163 : decode code 163 = .ok (.if_icmp .eq 253, 3) := by decide +kernel
theorem d_L_law_166 : decode code 166 = .ok (.iconst 0, 1) := by decide +kernel
theorem d_L_law_167 : decode code 167 = .ok (.ireturn, 1) := by decide +kernel
theorem d_L_law_168 : decode code 168 = .ok (.aload_n 1, 1) := by decide +kernel
theorem d_L_law_169 : decode code 169 = .ok (.aload_n 0, 1) := by decide +kernel
theorem d_L_law_170 : decode code 170 = .ok (.iload_n 3, 1) := by decide +kernel
theorem d_L_law_171 : decode code 171 = .ok (.iconst 1, 1) := by decide +kernel
theorem d_L_law_172 : decode code 172 = .ok (.iadd, 1) := by decide +kernel
theorem d_L_law_173 : decode code 173 = .ok (.iaload, 1) := by decide +kernel
theorem d_L_law_174 : decode code 174 = .ok (.aload_n 0, 1) := by decide +kernel
theorem d_L_law_175 : decode code 175 = .ok (.iload_n 3, 1) := by decide +kernel
theorem d_L_law_176 : decode code 176 = .ok (.iconst 2, 1) := by decide +kernel
theorem d_L_law_177 : decode code 177 = .ok (.iadd, 1) := by decide +kernel
theorem d_L_law_178 : decode code 178 = .ok (.iaload, 1) := by decide +kernel
theorem d_L_law_179 : decode code 179 = .ok (.invokevirtual 23, 3) := by decide +kernel
theorem d_L_law_182 : decode code 182 = .ok (.aload_n 2, 1) := by decide +kernel
theorem d_L_law_183 : decode code 183 = .ok (.aload_n 0, 1) := by decide +kernel
theorem d_L_law_184 : decode code 184 = .ok (.iload_n 3, 1) := by decide +kernel
theorem d_L_law_185 : decode code 185 = .ok (.iconst 1, 1) := by decide +kernel
theorem d_L_law_186 : decode code 186 = .ok (.iadd, 1) := by decide +kernel
theorem d_L_law_187 : decode code 187 = .ok (.iaload, 1) := by decide +kernel
theorem d_L_law_188 : decode code 188 = .ok (.aload_n 0, 1) := by decide +kernel
theorem d_L_law_189 : decode code 189 = .ok (.iload_n 3, 1) := by decide +kernel
theorem d_L_law_190 : decode code 190 = .ok (.iconst 2, 1) := by decide +kernel
theorem d_L_law_191 : decode code 191 = .ok (.iadd, 1) := by decide +kernel
theorem d_L_law_192 : decode code 192 = .ok (.iaload, 1) := by decide +kernel
theorem d_L_law_193 : decode code 193 = .ok (.invokevirtual 26, 3) := by decide +kernel
theorem d_L_law_196 : decode code 196 = .ok (.if_icmp .eq 220, 3) := by decide +kernel
theorem d_L_law_199 : decode code 199 = .ok (.iconst 0, 1) := by decide +kernel
theorem d_L_law_200 : decode code 200 = .ok (.ireturn, 1) := by decide +kernel
theorem d_L_law_201 : decode code 201 = .ok (.aload_n 1, 1) := by decide +kernel
theorem d_L_law_202 : decode code 202 = .ok (.aload_n 0, 1) := by decide +kernel
theorem d_L_law_203 : decode code 203 = .ok (.iload_n 3, 1) := by decide +kernel
theorem d_L_law_204 : decode code 204 = .ok (.iconst 1, 1) := by decide +kernel
theorem d_L_law_205 : decode code 205 = .ok (.iadd, 1) := by decide +kernel
theorem d_L_law_206 : decode code 206 = .ok (.iaload, 1) := by decide +kernel
theorem d_L_law_207 : decode code 207 = .ok (.invokevirtual 27, 3) := by decide +kernel
theorem d_L_law_210 : decode code 210 = .ok (.aload_n 2, 1) := by decide +kernel
theorem d_L_law_211 : decode code 211 = .ok (.aload_n 0, 1) := by decide +kernel
theorem d_L_law_212 : decode code 212 = .ok (.iload_n 3, 1) := by decide +kernel
theorem d_L_law_213 : decode code 213 = .ok (.iconst 1, 1) := by decide +kernel
theorem d_L_law_214 : decode code 214 = .ok (.iadd, 1) := by decide +kernel
theorem d_L_law_215 : decode code 215 = .ok (.iaload, 1) := by decide +kernel
theorem d_L_law_216 : decode code 216 = .ok (.invokevirtual 30, 3) := by decide +kernel
theorem d_L_law_219 : decode code 219 = .ok (.if_icmp .eq 197, 3) := by decide +kernel
theorem d_L_law_222 : decode code 222 = .ok (.iconst 0, 1) := by decide +kernel
theorem d_L_law_223 : decode code 223 = .ok (.ireturn, 1) := by decide +kernel
theorem d_L_law_224 : decode code 224 = .ok (.aload_n 1, 1) := by decide +kernel
theorem d_L_law_225 : decode code 225 = .ok (.aload_n 0, 1) := by decide +kernel
theorem d_L_law_226 : decode code 226 = .ok (.iload_n 3, 1) := by decide +kernel
theorem d_L_law_227 : decode code 227 = .ok (.iconst 1, 1) := by decide +kernel
theorem d_L_law_228 : decode code 228 = .ok (.iadd, 1) := by decide +kernel
theorem d_L_law_229 : decode code 229 = .ok (.iaload, 1) := by decide +kernel
theorem d_L_law_230 : decode code 230 = .ok (.invokevirtual 31, 3) := by decide +kernel
theorem d_L_law_233 : decode code 233 = .ok (.aload_n 2, 1) := by decide +kernel
theorem d_L_law_234 : decode code 234 = .ok (.aload_n 0, 1) := by decide +kernel
theorem d_L_law_235 : decode code 235 = .ok (.iload_n 3, 1) := by decide +kernel
theorem d_L_law_236 : decode code 236 = .ok (.iconst 1, 1) := by decide +kernel
theorem d_L_law_237 : decode code 237 = .ok (.iadd, 1) := by decide +kernel
theorem d_L_law_238 : decode code 238 = .ok (.iaload, 1) := by decide +kernel
theorem d_L_law_239 : decode code 239 = .ok (.invokevirtual 35, 3) := by decide +kernel
theorem d_L_law_242 : decode code 242 = .ok (.goto 174, 3) := by decide +kernel
theorem d_L_law_245 : decode code 245 = .ok (.aload_n 1, 1) := by decide +kernel
theorem d_L_law_246 : decode code 246 = .ok (.aload_n 0, 1) := by decide +kernel
theorem d_L_law_247 : decode code 247 = .ok (.iload_n 3, 1) := by decide +kernel
theorem d_L_law_248 : decode code 248 = .ok (.iconst 1, 1) := by decide +kernel
theorem d_L_law_249 : decode code 249 = .ok (.iadd, 1) := by decide +kernel
theorem d_L_law_250 : decode code 250 = .ok (.iaload, 1) := by decide +kernel
theorem d_L_law_251 : decode code 251 = .ok (.invokevirtual 36, 3) := by decide +kernel
theorem d_L_law_254 : decode code 254 = .ok (.aload_n 2, 1) := by decide +kernel
theorem d_L_law_255 : decode code 255 = .ok (.aload_n 0, 1) := by decide +kernel
theorem d_L_law_256 : decode code 256 = .ok (.iload_n 3, 1) := by decide +kernel
theorem d_L_law_257 : decode code 257 = .ok (.iconst 1, 1) := by decide +kernel
theorem d_L_law_258 : decode code 258 = .ok (.iadd, 1) := by decide +kernel
theorem d_L_law_259 : decode code 259 = .ok (.iaload, 1) := by decide +kernel
theorem d_L_law_260 : decode code 260 = .ok (.invokevirtual 39, 3) := by decide +kernel
theorem d_L_law_263 : decode code 263 = .ok (.if_icmp .eq 153, 3) := by decide +kernel
theorem d_L_law_266 : decode code 266 = .ok (.iconst 0, 1) := by decide +kernel
theorem d_L_law_267 : decode code 267 = .ok (.ireturn, 1) := by decide +kernel
theorem d_L_law_268 : decode code 268 = .ok (.aload_n 1, 1) := by decide +kernel
theorem d_L_law_269 : decode code 269 = .ok (.invokevirtual 40, 3) := by decide +kernel
theorem d_L_law_272 : decode code 272 = .ok (.aload_n 2, 1) := by decide +kernel
theorem d_L_law_273 : decode code 273 = .ok (.invokevirtual 44, 3) := by decide +kernel
theorem d_L_law_276 : decode code 276 = .ok (.if_icmp .eq 140, 3) := by decide +kernel
theorem d_L_law_279 : decode code 279 = .ok (.iconst 0, 1) := by decide +kernel
theorem d_L_law_280 : decode code 280 = .ok (.ireturn, 1) := by decide +kernel
theorem d_L_law_281 : decode code 281 = .ok (.aload_n 1, 1) := by decide +kernel
theorem d_L_law_282 : decode code 282 = .ok (.invokevirtual 45, 3) := by decide +kernel
theorem d_L_law_285 : decode code 285 = .ok (.aload_n 2, 1) := by decide +kernel
theorem d_L_law_286 : decode code 286 = .ok (.invokevirtual 48, 3) := by decide +kernel
theorem d_L_law_289 : decode code 289 = .ok (.if_icmp .eq 127, 3) := by decide +kernel
theorem d_L_law_292 : decode code 292 = .ok (.iconst 0, 1) := by decide +kernel
theorem d_L_law_293 : decode code 293 = .ok (.ireturn, 1) := by decide +kernel
theorem d_L_law_294 : decode code 294 = .ok (.aload_n 1, 1) := by decide +kernel
theorem d_L_law_295 : decode code 295 = .ok (.invokevirtual 49, 3) := by decide +kernel
theorem d_L_law_298 : decode code 298 = .ok (.aload_n 2, 1) := by decide +kernel
theorem d_L_law_299 : decode code 299 = .ok (.invokevirtual 52, 3) := by decide +kernel
theorem d_L_law_302 : decode code 302 = .ok (.goto 114, 3) := by decide +kernel
theorem d_L_law_305 : decode code 305 = .ok (.aload_n 1, 1) := by decide +kernel
theorem d_L_law_306 : decode code 306 = .ok (.aload_n 0, 1) := by decide +kernel
theorem d_L_law_307 : decode code 307 = .ok (.iload_n 3, 1) := by decide +kernel
theorem d_L_law_308 : decode code 308 = .ok (.iconst 1, 1) := by decide +kernel
theorem d_L_law_309 : decode code 309 = .ok (.iadd, 1) := by decide +kernel
theorem d_L_law_310 : decode code 310 = .ok (.iaload, 1) := by decide +kernel
theorem d_L_law_311 : decode code 311 = .ok (.invokevirtual 53, 3) := by decide +kernel
theorem d_L_law_314 : decode code 314 = .ok (.aload_n 2, 1) := by decide +kernel
theorem d_L_law_315 : decode code 315 = .ok (.aload_n 0, 1) := by decide +kernel
theorem d_L_law_316 : decode code 316 = .ok (.iload_n 3, 1) := by decide +kernel
theorem d_L_law_317 : decode code 317 = .ok (.iconst 1, 1) := by decide +kernel
theorem d_L_law_318 : decode code 318 = .ok (.iadd, 1) := by decide +kernel
theorem d_L_law_319 : decode code 319 = .ok (.iaload, 1) := by decide +kernel
theorem d_L_law_320 : decode code 320 = .ok (.invokevirtual 57, 3) := by decide +kernel
theorem d_L_law_323 : decode code 323 = .ok (.if_icmp .eq 93, 3) := by decide +kernel
theorem d_L_law_326 : decode code 326 = .ok (.iconst 0, 1) := by decide +kernel
theorem d_L_law_327 : decode code 327 = .ok (.ireturn, 1) := by decide +kernel
theorem d_L_law_328 : decode code 328 = .ok (.aload_n 1, 1) := by decide +kernel
theorem d_L_law_329 : decode code 329 = .ok (.invokevirtual 58, 3) := by decide +kernel
theorem d_L_law_332 : decode code 332 = .ok (.aload_n 2, 1) := by decide +kernel
theorem d_L_law_333 : decode code 333 = .ok (.invokevirtual 61, 3) := by decide +kernel
theorem d_L_law_336 : decode code 336 = .ok (.if_icmp .eq 80, 3) := by decide +kernel
theorem d_L_law_339 : decode code 339 = .ok (.iconst 0, 1) := by decide +kernel
theorem d_L_law_340 : decode code 340 = .ok (.ireturn, 1) := by decide +kernel
theorem d_L_law_341 : decode code 341 = .ok (.aload_n 1, 1) := by decide +kernel
theorem d_L_law_342 : decode code 342 = .ok (.invokevirtual 62, 3) := by decide +kernel
theorem d_L_law_345 : decode code 345 = .ok (.aload_n 2, 1) := by decide +kernel
theorem d_L_law_346 : decode code 346 = .ok (.invokevirtual 65, 3) := by decide +kernel
theorem d_L_law_349 : decode code 349 = .ok (.if_icmp .eq 67, 3) := by decide +kernel
theorem d_L_law_352 : decode code 352 = .ok (.iconst 0, 1) := by decide +kernel
theorem d_L_law_353 : decode code 353 = .ok (.ireturn, 1) := by decide +kernel
theorem d_L_law_354 : decode code 354 = .ok (.aload_n 1, 1) := by decide +kernel
theorem d_L_law_355 : decode code 355 = .ok (.aload_n 0, 1) := by decide +kernel
theorem d_L_law_356 : decode code 356 = .ok (.iload_n 3, 1) := by decide +kernel
theorem d_L_law_357 : decode code 357 = .ok (.iconst 1, 1) := by decide +kernel
theorem d_L_law_358 : decode code 358 = .ok (.iadd, 1) := by decide +kernel
theorem d_L_law_359 : decode code 359 = .ok (.iaload, 1) := by decide +kernel
theorem d_L_law_360 : decode code 360 = .ok (.invokevirtual 66, 3) := by decide +kernel
theorem d_L_law_363 : decode code 363 = .ok (.aload_n 2, 1) := by decide +kernel
theorem d_L_law_364 : decode code 364 = .ok (.aload_n 0, 1) := by decide +kernel
theorem d_L_law_365 : decode code 365 = .ok (.iload_n 3, 1) := by decide +kernel
theorem d_L_law_366 : decode code 366 = .ok (.iconst 1, 1) := by decide +kernel
theorem d_L_law_367 : decode code 367 = .ok (.iadd, 1) := by decide +kernel
theorem d_L_law_368 : decode code 368 = .ok (.iaload, 1) := by decide +kernel
theorem d_L_law_369 : decode code 369 = .ok (.invokevirtual 69, 3) := by decide +kernel
theorem d_L_law_372 : decode code 372 = .ok (.if_icmp .eq 44, 3) := by decide +kernel
theorem d_L_law_375 : decode code 375 = .ok (.iconst 0, 1) := by decide +kernel
theorem d_L_law_376 : decode code 376 = .ok (.ireturn, 1) := by decide +kernel
theorem d_L_law_377 : decode code 377 = .ok (.aload_n 1, 1) := by decide +kernel
theorem d_L_law_378 : decode code 378 = .ok (.invokevirtual 70, 3) := by decide +kernel
theorem d_L_law_381 : decode code 381 = .ok (.aload_n 2, 1) := by decide +kernel
theorem d_L_law_382 : decode code 382 = .ok (.invokevirtual 73, 3) := by decide +kernel
theorem d_L_law_385 : decode code 385 = .ok (.if_icmp .eq 31, 3) := by decide +kernel
theorem d_L_law_388 : decode code 388 = .ok (.iconst 0, 1) := by decide +kernel
theorem d_L_law_389 : decode code 389 = .ok (.ireturn, 1) := by decide +kernel
theorem d_L_law_390 : decode code 390 = .ok (.aload_n 1, 1) := by decide +kernel
theorem d_L_law_391 : decode code 391 = .ok (.invokevirtual 74, 3) := by decide +kernel
theorem d_L_law_394 : decode code 394 = .ok (.aload_n 2, 1) := by decide +kernel
theorem d_L_law_395 : decode code 395 = .ok (.invokevirtual 77, 3) := by decide +kernel
theorem d_L_law_398 : decode code 398 = .ok (.if_icmp .eq 18, 3) := by decide +kernel
theorem d_L_law_401 : decode code 401 = .ok (.iconst 0, 1) := by decide +kernel
theorem d_L_law_402 : decode code 402 = .ok (.ireturn, 1) := by decide +kernel
theorem d_L_law_403 : decode code 403 = .ok (.aload_n 1, 1) := by decide +kernel
theorem d_L_law_404 : decode code 404 = .ok (.invokevirtual 78, 3) := by decide +kernel
theorem d_L_law_407 : decode code 407 = .ok (.aload_n 2, 1) := by decide +kernel
theorem d_L_law_408 : decode code 408 = .ok (.invokevirtual 81, 3) := by decide +kernel
theorem d_L_law_411 : decode code 411 = .ok (.if_icmp .eq 5, 3) := by decide +kernel
theorem d_L_law_414 : decode code 414 = .ok (.iconst 0, 1) := by decide +kernel
theorem d_L_law_415 : decode code 415 = .ok (.ireturn, 1) := by decide +kernel
theorem d_L_law_416 : decode code 416 = .ok (.iinc 3 3, 3) := by decide +kernel
theorem d_L_law_419 : decode code 419 = .ok (.goto (-401), 3) := by decide +kernel
theorem d_L_law_422 : decode code 422 = .ok (.iconst 1, 1) := by decide +kernel
theorem d_L_law_423 : decode code 423 = .ok (.ireturn, 1) := by decide +kernel
