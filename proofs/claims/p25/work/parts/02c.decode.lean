theorem dL_refusesAny_76 : decode cL_refusesAny 76 = .ok (.bipush 9, 2) := by decide +kernel
theorem dL_refusesAny_78 : decode cL_refusesAny 78 = .ok (.sipush 330, 3) := by decide +kernel
theorem dL_refusesAny_81 : decode cL_refusesAny 81 = .ok (.bipush 99, 2) := by decide +kernel
theorem dL_refusesAny_83 : decode cL_refusesAny 83 = .ok (.invokestatic 89, 3) := by decide +kernel
theorem dL_refusesAny_86 : decode cL_refusesAny 86 = .ok (.ifCond .eq 70, 3) := by decide +kernel
theorem dL_refusesAny_89 : decode cL_refusesAny 89 = .ok (.aload_n 0, 1) := by decide +kernel
theorem dL_refusesAny_90 : decode cL_refusesAny 90 = .ok (.bipush 10, 2) := by decide +kernel
theorem dL_refusesAny_92 : decode cL_refusesAny 92 = .ok (.sipush 335, 3) := by decide +kernel
theorem dL_refusesAny_95 : decode cL_refusesAny 95 = .ok (.iconst 0, 1) := by decide +kernel
theorem dL_refusesAny_96 : decode cL_refusesAny 96 = .ok (.invokestatic 89, 3) := by decide +kernel
theorem dL_refusesAny_99 : decode cL_refusesAny 99 = .ok (.ifCond .eq 57, 3) := by decide +kernel
theorem dL_refusesAny_102 : decode cL_refusesAny 102 = .ok (.aload_n 0, 1) := by decide +kernel
theorem dL_refusesAny_103 : decode cL_refusesAny 103 = .ok (.bipush 11, 2) := by decide +kernel
theorem dL_refusesAny_105 : decode cL_refusesAny 105 = .ok (.sipush 535, 3) := by decide +kernel
theorem dL_refusesAny_108 : decode cL_refusesAny 108 = .ok (.iconst 0, 1) := by decide +kernel
theorem dL_refusesAny_109 : decode cL_refusesAny 109 = .ok (.invokestatic 89, 3) := by decide +kernel
theorem dL_refusesAny_112 : decode cL_refusesAny 112 = .ok (.ifCond .eq 44, 3) := by decide +kernel
theorem dL_refusesAny_115 : decode cL_refusesAny 115 = .ok (.aload_n 0, 1) := by decide +kernel
theorem dL_refusesAny_116 : decode cL_refusesAny 116 = .ok (.bipush 14, 2) := by decide +kernel
theorem dL_refusesAny_118 : decode cL_refusesAny 118 = .ok (.sipush 533, 3) := by decide +kernel
theorem dL_refusesAny_121 : decode cL_refusesAny 121 = .ok (.bipush 99, 2) := by decide +kernel
theorem dL_refusesAny_123 : decode cL_refusesAny 123 = .ok (.invokestatic 89, 3) := by decide +kernel
theorem dL_refusesAny_126 : decode cL_refusesAny 126 = .ok (.ifCond .eq 30, 3) := by decide +kernel
theorem dL_refusesAny_129 : decode cL_refusesAny 129 = .ok (.aload_n 0, 1) := by decide +kernel
theorem dL_refusesAny_130 : decode cL_refusesAny 130 = .ok (.bipush 15, 2) := by decide +kernel
theorem dL_refusesAny_132 : decode cL_refusesAny 132 = .ok (.sipush 333, 3) := by decide +kernel
theorem dL_refusesAny_135 : decode cL_refusesAny 135 = .ok (.bipush 99, 2) := by decide +kernel
theorem dL_refusesAny_137 : decode cL_refusesAny 137 = .ok (.invokestatic 89, 3) := by decide +kernel
theorem dL_refusesAny_140 : decode cL_refusesAny 140 = .ok (.ifCond .eq 16, 3) := by decide +kernel
theorem dL_refusesAny_143 : decode cL_refusesAny 143 = .ok (.aload_n 0, 1) := by decide +kernel
theorem dL_refusesAny_144 : decode cL_refusesAny 144 = .ok (.bipush 16, 2) := by decide +kernel
theorem dL_refusesAny_146 : decode cL_refusesAny 146 = .ok (.sipush 530, 3) := by decide +kernel
theorem dL_refusesAny_149 : decode cL_refusesAny 149 = .ok (.iconst 0, 1) := by decide +kernel
theorem dL_refusesAny_150 : decode cL_refusesAny 150 = .ok (.invokestatic 89, 3) := by decide +kernel
theorem dL_refusesAny_153 : decode cL_refusesAny 153 = .ok (.ifCond .ne 5, 3) := by decide +kernel
theorem dL_refusesAny_156 : decode cL_refusesAny 156 = .ok (.iconst 0, 1) := by decide +kernel
theorem dL_refusesAny_157 : decode cL_refusesAny 157 = .ok (.ireturn, 1) := by decide +kernel
theorem dL_refusesAny_158 : decode cL_refusesAny 158 = .ok (.aload_n 0, 1) := by decide +kernel
theorem dL_refusesAny_159 : decode cL_refusesAny 159 = .ok (.iconst 1, 1) := by decide +kernel
theorem dL_refusesAny_160 : decode cL_refusesAny 160 = .ok (.iconst 1, 1) := by decide +kernel
theorem dL_refusesAny_161 : decode cL_refusesAny 161 = .ok (.iconst 0, 1) := by decide +kernel
theorem dL_refusesAny_162 : decode cL_refusesAny 162 = .ok (.iconst 2, 1) := by decide +kernel
theorem dL_refusesAny_163 : decode cL_refusesAny 163 = .ok (.iload_n 1, 1) := by decide +kernel
theorem dL_refusesAny_164 : decode cL_refusesAny 164 = .ok (.ifCond .ge 7, 3) := by decide +kernel
theorem dL_refusesAny_167 : decode cL_refusesAny 167 = .ok (.iconst (-1), 1) := by decide +kernel
theorem dL_refusesAny_168 : decode cL_refusesAny 168 = .ok (.goto 5, 3) := by decide +kernel
theorem dL_refusesAny_171 : decode cL_refusesAny 171 = .ok (.bipush 100, 2) := by decide +kernel
theorem dL_refusesAny_173 : decode cL_refusesAny 173 = .ok (.invokestatic 86, 3) := by decide +kernel
theorem dL_refusesAny_176 : decode cL_refusesAny 176 = .ok (.bipush (-12), 2) := by decide +kernel
theorem dL_refusesAny_178 : decode cL_refusesAny 178 = .ok (.if_icmp .ne 165, 3) := by decide +kernel
theorem dL_refusesAny_181 : decode cL_refusesAny 181 = .ok (.aload_n 0, 1) := by decide +kernel
theorem dL_refusesAny_182 : decode cL_refusesAny 182 = .ok (.iconst 2, 1) := by decide +kernel
theorem dL_refusesAny_183 : decode cL_refusesAny 183 = .ok (.iconst 1, 1) := by decide +kernel
theorem dL_refusesAny_184 : decode cL_refusesAny 184 = .ok (.iconst 1, 1) := by decide +kernel
theorem dL_refusesAny_185 : decode cL_refusesAny 185 = .ok (.iconst 0, 1) := by decide +kernel
theorem dL_refusesAny_186 : decode cL_refusesAny 186 = .ok (.iconst 0, 1) := by decide +kernel
theorem dL_refusesAny_187 : decode cL_refusesAny 187 = .ok (.invokestatic 86, 3) := by decide +kernel
theorem dL_refusesAny_190 : decode cL_refusesAny 190 = .ok (.bipush (-12), 2) := by decide +kernel
theorem dL_refusesAny_192 : decode cL_refusesAny 192 = .ok (.if_icmp .ne 151, 3) := by decide +kernel
theorem dL_refusesAny_195 : decode cL_refusesAny 195 = .ok (.aload_n 0, 1) := by decide +kernel
theorem dL_refusesAny_196 : decode cL_refusesAny 196 = .ok (.iconst 3, 1) := by decide +kernel
theorem dL_refusesAny_197 : decode cL_refusesAny 197 = .ok (.iconst 1, 1) := by decide +kernel
theorem dL_refusesAny_198 : decode cL_refusesAny 198 = .ok (.iconst 0, 1) := by decide +kernel
theorem dL_refusesAny_199 : decode cL_refusesAny 199 = .ok (.iconst 2, 1) := by decide +kernel
theorem dL_refusesAny_200 : decode cL_refusesAny 200 = .ok (.iload_n 1, 1) := by decide +kernel
theorem dL_refusesAny_201 : decode cL_refusesAny 201 = .ok (.ifCond .ge 7, 3) := by decide +kernel
theorem dL_refusesAny_204 : decode cL_refusesAny 204 = .ok (.iconst (-1), 1) := by decide +kernel
theorem dL_refusesAny_205 : decode cL_refusesAny 205 = .ok (.goto 4, 3) := by decide +kernel
theorem dL_refusesAny_208 : decode cL_refusesAny 208 = .ok (.iconst 4, 1) := by decide +kernel
theorem dL_refusesAny_209 : decode cL_refusesAny 209 = .ok (.invokestatic 86, 3) := by decide +kernel
theorem dL_refusesAny_212 : decode cL_refusesAny 212 = .ok (.bipush (-12), 2) := by decide +kernel
theorem dL_refusesAny_214 : decode cL_refusesAny 214 = .ok (.if_icmp .ne 129, 3) := by decide +kernel
theorem dL_refusesAny_217 : decode cL_refusesAny 217 = .ok (.aload_n 0, 1) := by decide +kernel
theorem dL_refusesAny_218 : decode cL_refusesAny 218 = .ok (.bipush 6, 2) := by decide +kernel
theorem dL_refusesAny_220 : decode cL_refusesAny 220 = .ok (.iload_n 1, 1) := by decide +kernel
theorem dL_refusesAny_221 : decode cL_refusesAny 221 = .ok (.ifCond .ge 8, 3) := by decide +kernel
theorem dL_refusesAny_224 : decode cL_refusesAny 224 = .ok (.bipush 32, 2) := by decide +kernel
theorem dL_refusesAny_226 : decode cL_refusesAny 226 = .ok (.goto 5, 3) := by decide +kernel
theorem dL_refusesAny_229 : decode cL_refusesAny 229 = .ok (.bipush 127, 2) := by decide +kernel
theorem dL_refusesAny_231 : decode cL_refusesAny 231 = .ok (.iconst 0, 1) := by decide +kernel
theorem dL_refusesAny_232 : decode cL_refusesAny 232 = .ok (.iconst 0, 1) := by decide +kernel
theorem dL_refusesAny_233 : decode cL_refusesAny 233 = .ok (.iconst 0, 1) := by decide +kernel
theorem dL_refusesAny_234 : decode cL_refusesAny 234 = .ok (.invokestatic 86, 3) := by decide +kernel
theorem dL_refusesAny_237 : decode cL_refusesAny 237 = .ok (.bipush (-12), 2) := by decide +kernel
theorem dL_refusesAny_239 : decode cL_refusesAny 239 = .ok (.if_icmp .ne 104, 3) := by decide +kernel
theorem dL_refusesAny_242 : decode cL_refusesAny 242 = .ok (.aload_n 0, 1) := by decide +kernel
theorem dL_refusesAny_243 : decode cL_refusesAny 243 = .ok (.bipush 9, 2) := by decide +kernel
theorem dL_refusesAny_245 : decode cL_refusesAny 245 = .ok (.iconst 0, 1) := by decide +kernel
theorem dL_refusesAny_246 : decode cL_refusesAny 246 = .ok (.iconst 0, 1) := by decide +kernel
theorem dL_refusesAny_247 : decode cL_refusesAny 247 = .ok (.iload_n 1, 1) := by decide +kernel
theorem dL_refusesAny_248 : decode cL_refusesAny 248 = .ok (.ifCond .ge 7, 3) := by decide +kernel
theorem dL_refusesAny_251 : decode cL_refusesAny 251 = .ok (.iconst (-1), 1) := by decide +kernel
theorem dL_refusesAny_252 : decode cL_refusesAny 252 = .ok (.goto 4, 3) := by decide +kernel
theorem dL_refusesAny_255 : decode cL_refusesAny 255 = .ok (.iconst 4, 1) := by decide +kernel
theorem dL_refusesAny_256 : decode cL_refusesAny 256 = .ok (.iconst 0, 1) := by decide +kernel
theorem dL_refusesAny_257 : decode cL_refusesAny 257 = .ok (.invokestatic 86, 3) := by decide +kernel
theorem dL_refusesAny_260 : decode cL_refusesAny 260 = .ok (.bipush (-12), 2) := by decide +kernel
theorem dL_refusesAny_262 : decode cL_refusesAny 262 = .ok (.if_icmp .ne 81, 3) := by decide +kernel
theorem dL_refusesAny_265 : decode cL_refusesAny 265 = .ok (.aload_n 0, 1) := by decide +kernel
theorem dL_refusesAny_266 : decode cL_refusesAny 266 = .ok (.bipush 9, 2) := by decide +kernel
theorem dL_refusesAny_268 : decode cL_refusesAny 268 = .ok (.iconst 0, 1) := by decide +kernel
theorem dL_refusesAny_269 : decode cL_refusesAny 269 = .ok (.iconst 0, 1) := by decide +kernel
theorem dL_refusesAny_270 : decode cL_refusesAny 270 = .ok (.iconst 0, 1) := by decide +kernel
theorem dL_refusesAny_271 : decode cL_refusesAny 271 = .ok (.iload_n 1, 1) := by decide +kernel
theorem dL_refusesAny_272 : decode cL_refusesAny 272 = .ok (.ifCond .ge 7, 3) := by decide +kernel
theorem dL_refusesAny_275 : decode cL_refusesAny 275 = .ok (.iconst (-1), 1) := by decide +kernel
theorem dL_refusesAny_276 : decode cL_refusesAny 276 = .ok (.goto 4, 3) := by decide +kernel
theorem dL_refusesAny_279 : decode cL_refusesAny 279 = .ok (.iconst 5, 1) := by decide +kernel
theorem dL_refusesAny_280 : decode cL_refusesAny 280 = .ok (.invokestatic 86, 3) := by decide +kernel
theorem dL_refusesAny_283 : decode cL_refusesAny 283 = .ok (.bipush (-12), 2) := by decide +kernel
theorem dL_refusesAny_285 : decode cL_refusesAny 285 = .ok (.if_icmp .ne 58, 3) := by decide +kernel
theorem dL_refusesAny_288 : decode cL_refusesAny 288 = .ok (.aload_n 0, 1) := by decide +kernel
theorem dL_refusesAny_289 : decode cL_refusesAny 289 = .ok (.bipush 12, 2) := by decide +kernel
theorem dL_refusesAny_291 : decode cL_refusesAny 291 = .ok (.iconst 3, 1) := by decide +kernel
theorem dL_refusesAny_292 : decode cL_refusesAny 292 = .ok (.bipush 99, 2) := by decide +kernel
theorem dL_refusesAny_294 : decode cL_refusesAny 294 = .ok (.iconst 0, 1) := by decide +kernel
theorem dL_refusesAny_295 : decode cL_refusesAny 295 = .ok (.iconst 0, 1) := by decide +kernel
theorem dL_refusesAny_296 : decode cL_refusesAny 296 = .ok (.invokestatic 86, 3) := by decide +kernel
theorem dL_refusesAny_299 : decode cL_refusesAny 299 = .ok (.bipush (-11), 2) := by decide +kernel
theorem dL_refusesAny_301 : decode cL_refusesAny 301 = .ok (.if_icmp .ne 42, 3) := by decide +kernel
theorem dL_refusesAny_304 : decode cL_refusesAny 304 = .ok (.aload_n 0, 1) := by decide +kernel
theorem dL_refusesAny_305 : decode cL_refusesAny 305 = .ok (.bipush 12, 2) := by decide +kernel
theorem dL_refusesAny_307 : decode cL_refusesAny 307 = .ok (.iconst (-1), 1) := by decide +kernel
theorem dL_refusesAny_308 : decode cL_refusesAny 308 = .ok (.iconst 0, 1) := by decide +kernel
theorem dL_refusesAny_309 : decode cL_refusesAny 309 = .ok (.iconst 0, 1) := by decide +kernel
theorem dL_refusesAny_310 : decode cL_refusesAny 310 = .ok (.iconst 0, 1) := by decide +kernel
theorem dL_refusesAny_311 : decode cL_refusesAny 311 = .ok (.invokestatic 86, 3) := by decide +kernel
theorem dL_refusesAny_314 : decode cL_refusesAny 314 = .ok (.bipush (-11), 2) := by decide +kernel
theorem dL_refusesAny_316 : decode cL_refusesAny 316 = .ok (.if_icmp .ne 27, 3) := by decide +kernel
theorem dL_refusesAny_319 : decode cL_refusesAny 319 = .ok (.aload_n 0, 1) := by decide +kernel
theorem dL_refusesAny_320 : decode cL_refusesAny 320 = .ok (.bipush 12, 2) := by decide +kernel
theorem dL_refusesAny_322 : decode cL_refusesAny 322 = .ok (.iconst 0, 1) := by decide +kernel
theorem dL_refusesAny_323 : decode cL_refusesAny 323 = .ok (.iload_n 1, 1) := by decide +kernel
theorem dL_refusesAny_324 : decode cL_refusesAny 324 = .ok (.ifCond .ge 7, 3) := by decide +kernel
theorem dL_refusesAny_327 : decode cL_refusesAny 327 = .ok (.iconst (-1), 1) := by decide +kernel
theorem dL_refusesAny_328 : decode cL_refusesAny 328 = .ok (.goto 5, 3) := by decide +kernel
theorem dL_refusesAny_331 : decode cL_refusesAny 331 = .ok (.bipush 8, 2) := by decide +kernel
theorem dL_refusesAny_333 : decode cL_refusesAny 333 = .ok (.iconst 0, 1) := by decide +kernel
theorem dL_refusesAny_334 : decode cL_refusesAny 334 = .ok (.iconst 0, 1) := by decide +kernel
theorem dL_refusesAny_335 : decode cL_refusesAny 335 = .ok (.invokestatic 86, 3) := by decide +kernel
theorem dL_refusesAny_338 : decode cL_refusesAny 338 = .ok (.bipush (-12), 2) := by decide +kernel
theorem dL_refusesAny_340 : decode cL_refusesAny 340 = .ok (.if_icmp .eq 5, 3) := by decide +kernel
theorem dL_refusesAny_343 : decode cL_refusesAny 343 = .ok (.iconst 0, 1) := by decide +kernel
theorem dL_refusesAny_344 : decode cL_refusesAny 344 = .ok (.ireturn, 1) := by decide +kernel
theorem dL_refusesAny_345 : decode cL_refusesAny 345 = .ok (.aload_n 0, 1) := by decide +kernel
theorem dL_refusesAny_346 : decode cL_refusesAny 346 = .ok (.bipush 13, 2) := by decide +kernel
theorem dL_refusesAny_348 : decode cL_refusesAny 348 = .ok (.iload_n 1, 1) := by decide +kernel
theorem dL_refusesAny_349 : decode cL_refusesAny 349 = .ok (.ifCond .ge 7, 3) := by decide +kernel
theorem dL_refusesAny_352 : decode cL_refusesAny 352 = .ok (.iconst (-1), 1) := by decide +kernel
theorem dL_refusesAny_353 : decode cL_refusesAny 353 = .ok (.goto 5, 3) := by decide +kernel
theorem dL_refusesAny_356 : decode cL_refusesAny 356 = .ok (.bipush 8, 2) := by decide +kernel
theorem dL_refusesAny_358 : decode cL_refusesAny 358 = .ok (.iconst 0, 1) := by decide +kernel
theorem dL_refusesAny_359 : decode cL_refusesAny 359 = .ok (.iconst 0, 1) := by decide +kernel
theorem dL_refusesAny_360 : decode cL_refusesAny 360 = .ok (.iconst 0, 1) := by decide +kernel
theorem dL_refusesAny_361 : decode cL_refusesAny 361 = .ok (.invokestatic 86, 3) := by decide +kernel
theorem dL_refusesAny_364 : decode cL_refusesAny 364 = .ok (.bipush (-12), 2) := by decide +kernel
theorem dL_refusesAny_366 : decode cL_refusesAny 366 = .ok (.if_icmp .ne 68, 3) := by decide +kernel
theorem dL_refusesAny_369 : decode cL_refusesAny 369 = .ok (.aload_n 0, 1) := by decide +kernel
theorem dL_refusesAny_370 : decode cL_refusesAny 370 = .ok (.bipush 14, 2) := by decide +kernel
theorem dL_refusesAny_372 : decode cL_refusesAny 372 = .ok (.iconst 0, 1) := by decide +kernel
theorem dL_refusesAny_373 : decode cL_refusesAny 373 = .ok (.iconst 0, 1) := by decide +kernel
theorem dL_refusesAny_374 : decode cL_refusesAny 374 = .ok (.iconst 0, 1) := by decide +kernel
theorem dL_refusesAny_375 : decode cL_refusesAny 375 = .ok (.iload_n 1, 1) := by decide +kernel
theorem dL_refusesAny_376 : decode cL_refusesAny 376 = .ok (.ifCond .ge 7, 3) := by decide +kernel
theorem dL_refusesAny_379 : decode cL_refusesAny 379 = .ok (.iconst (-1), 1) := by decide +kernel
theorem dL_refusesAny_380 : decode cL_refusesAny 380 = .ok (.goto 4, 3) := by decide +kernel
theorem dL_refusesAny_383 : decode cL_refusesAny 383 = .ok (.iconst 2, 1) := by decide +kernel
theorem dL_refusesAny_384 : decode cL_refusesAny 384 = .ok (.invokestatic 86, 3) := by decide +kernel
theorem dL_refusesAny_387 : decode cL_refusesAny 387 = .ok (.bipush (-12), 2) := by decide +kernel
theorem dL_refusesAny_389 : decode cL_refusesAny 389 = .ok (.if_icmp .ne 45, 3) := by decide +kernel
theorem dL_refusesAny_392 : decode cL_refusesAny 392 = .ok (.aload_n 0, 1) := by decide +kernel
theorem dL_refusesAny_393 : decode cL_refusesAny 393 = .ok (.bipush 15, 2) := by decide +kernel
theorem dL_refusesAny_395 : decode cL_refusesAny 395 = .ok (.iconst 0, 1) := by decide +kernel
theorem dL_refusesAny_396 : decode cL_refusesAny 396 = .ok (.iconst 1, 1) := by decide +kernel
theorem dL_refusesAny_397 : decode cL_refusesAny 397 = .ok (.iconst 0, 1) := by decide +kernel
theorem dL_refusesAny_398 : decode cL_refusesAny 398 = .ok (.iload_n 1, 1) := by decide +kernel
theorem dL_refusesAny_399 : decode cL_refusesAny 399 = .ok (.ifCond .ge 7, 3) := by decide +kernel
theorem dL_refusesAny_402 : decode cL_refusesAny 402 = .ok (.iconst (-1), 1) := by decide +kernel
theorem dL_refusesAny_403 : decode cL_refusesAny 403 = .ok (.goto 4, 3) := by decide +kernel
theorem dL_refusesAny_406 : decode cL_refusesAny 406 = .ok (.iconst 3, 1) := by decide +kernel
theorem dL_refusesAny_407 : decode cL_refusesAny 407 = .ok (.invokestatic 86, 3) := by decide +kernel
theorem dL_refusesAny_410 : decode cL_refusesAny 410 = .ok (.bipush (-12), 2) := by decide +kernel
theorem dL_refusesAny_412 : decode cL_refusesAny 412 = .ok (.if_icmp .ne 22, 3) := by decide +kernel
theorem dL_refusesAny_415 : decode cL_refusesAny 415 = .ok (.aload_n 0, 1) := by decide +kernel
theorem dL_refusesAny_416 : decode cL_refusesAny 416 = .ok (.bipush 15, 2) := by decide +kernel
theorem dL_refusesAny_418 : decode cL_refusesAny 418 = .ok (.iconst 2, 1) := by decide +kernel
theorem dL_refusesAny_419 : decode cL_refusesAny 419 = .ok (.iconst 2, 1) := by decide +kernel
theorem dL_refusesAny_420 : decode cL_refusesAny 420 = .ok (.iconst 0, 1) := by decide +kernel
theorem dL_refusesAny_421 : decode cL_refusesAny 421 = .ok (.iconst 0, 1) := by decide +kernel
theorem dL_refusesAny_422 : decode cL_refusesAny 422 = .ok (.invokestatic 86, 3) := by decide +kernel
theorem dL_refusesAny_425 : decode cL_refusesAny 425 = .ok (.bipush (-12), 2) := by decide +kernel
theorem dL_refusesAny_427 : decode cL_refusesAny 427 = .ok (.if_icmp .ne 7, 3) := by decide +kernel
theorem dL_refusesAny_430 : decode cL_refusesAny 430 = .ok (.iconst 1, 1) := by decide +kernel
theorem dL_refusesAny_431 : decode cL_refusesAny 431 = .ok (.goto 4, 3) := by decide +kernel
theorem dL_refusesAny_434 : decode cL_refusesAny 434 = .ok (.iconst 0, 1) := by decide +kernel
theorem dL_refusesAny_435 : decode cL_refusesAny 435 = .ok (.ireturn, 1) := by decide +kernel
theorem dL_refused_0 : decode cL_refused 0 = .ok (.aload_n 0, 1) := by decide +kernel
theorem dL_refused_1 : decode cL_refused 1 = .ok (.invokestatic 93, 3) := by decide +kernel
theorem dL_refused_4 : decode cL_refused 4 = .ok (.lstore_n 1, 1) := by decide +kernel
theorem dL_refused_5 : decode cL_refused 5 = .ok (.aload_n 0, 1) := by decide +kernel
theorem dL_refused_6 : decode cL_refused 6 = .ok (.bipush 7, 2) := by decide +kernel
theorem dL_refused_8 : decode cL_refused 8 = .ok (.invokevirtual 55, 3) := by decide +kernel
theorem dL_refused_11 : decode cL_refused 11 = .ok (.istore_n 3, 1) := by decide +kernel
theorem dL_refused_12 : decode cL_refused 12 = .ok (.aload_n 0, 1) := by decide +kernel
theorem dL_refused_13 : decode cL_refused 13 = .ok (.iconst (-1), 1) := by decide +kernel
theorem dL_refused_14 : decode cL_refused 14 = .ok (.invokestatic 97, 3) := by decide +kernel
theorem dL_refused_17 : decode cL_refused 17 = .ok (.ifCond .eq 34, 3) := by decide +kernel
theorem dL_refused_20 : decode cL_refused 20 = .ok (.aload_n 0, 1) := by decide +kernel
theorem dL_refused_21 : decode cL_refused 21 = .ok (.iconst 1, 1) := by decide +kernel
theorem dL_refused_22 : decode cL_refused 22 = .ok (.invokestatic 97, 3) := by decide +kernel
theorem dL_refused_25 : decode cL_refused 25 = .ok (.ifCond .eq 26, 3) := by decide +kernel
theorem dL_refused_28 : decode cL_refused 28 = .ok (.aload_n 0, 1) := by decide +kernel
theorem dL_refused_29 : decode cL_refused 29 = .ok (.invokestatic 93, 3) := by decide +kernel
theorem dL_refused_32 : decode cL_refused 32 = .ok (.lload_n 1, 1) := by decide +kernel
theorem dL_refused_33 : decode cL_refused 33 = .ok (.lcmp, 1) := by decide +kernel
theorem dL_refused_34 : decode cL_refused 34 = .ok (.ifCond .ne 17, 3) := by decide +kernel
theorem dL_refused_37 : decode cL_refused 37 = .ok (.aload_n 0, 1) := by decide +kernel
theorem dL_refused_38 : decode cL_refused 38 = .ok (.bipush 7, 2) := by decide +kernel
theorem dL_refused_40 : decode cL_refused 40 = .ok (.invokevirtual 55, 3) := by decide +kernel
theorem dL_refused_43 : decode cL_refused 43 = .ok (.iload_n 3, 1) := by decide +kernel
theorem dL_refused_44 : decode cL_refused 44 = .ok (.if_icmp .ne 7, 3) := by decide +kernel
theorem dL_refused_47 : decode cL_refused 47 = .ok (.iconst 1, 1) := by decide +kernel
theorem dL_refused_48 : decode cL_refused 48 = .ok (.goto 4, 3) := by decide +kernel
theorem dL_refused_51 : decode cL_refused 51 = .ok (.iconst 0, 1) := by decide +kernel
theorem dL_refused_52 : decode cL_refused 52 = .ok (.ireturn, 1) := by decide +kernel
theorem dL_isSibling_0 : decode cL_isSibling 0 = .ok (.aload_n 0, 1) := by decide +kernel
theorem dL_isSibling_1 : decode cL_isSibling 1 = .ok (.iload_n 1, 1) := by decide +kernel
theorem dL_isSibling_2 : decode cL_isSibling 2 = .ok (.iload_n 2, 1) := by decide +kernel
theorem dL_isSibling_3 : decode cL_isSibling 3 = .ok (.iload_n 3, 1) := by decide +kernel
theorem dL_isSibling_4 : decode cL_isSibling 4 = .ok (.iconst 0, 1) := by decide +kernel
theorem dL_isSibling_5 : decode cL_isSibling 5 = .ok (.invokevirtual 43, 3) := by decide +kernel
theorem dL_isSibling_8 : decode cL_isSibling 8 = .ok (.iload 4, 2) := by decide +kernel
theorem dL_isSibling_10 : decode cL_isSibling 10 = .ok (.if_icmp .ne 59, 3) := by decide +kernel
theorem dL_isSibling_13 : decode cL_isSibling 13 = .ok (.aload_n 0, 1) := by decide +kernel
theorem dL_isSibling_14 : decode cL_isSibling 14 = .ok (.iload_n 1, 1) := by decide +kernel
theorem dL_isSibling_15 : decode cL_isSibling 15 = .ok (.iload_n 2, 1) := by decide +kernel
theorem dL_isSibling_16 : decode cL_isSibling 16 = .ok (.iload_n 3, 1) := by decide +kernel
theorem dL_isSibling_17 : decode cL_isSibling 17 = .ok (.iconst 1, 1) := by decide +kernel
theorem dL_isSibling_18 : decode cL_isSibling 18 = .ok (.invokevirtual 43, 3) := by decide +kernel
theorem dL_isSibling_21 : decode cL_isSibling 21 = .ok (.iload 5, 2) := by decide +kernel
theorem dL_isSibling_23 : decode cL_isSibling 23 = .ok (.if_icmp .ne 46, 3) := by decide +kernel
theorem dL_isSibling_26 : decode cL_isSibling 26 = .ok (.aload_n 0, 1) := by decide +kernel
theorem dL_isSibling_27 : decode cL_isSibling 27 = .ok (.iload_n 1, 1) := by decide +kernel
theorem dL_isSibling_28 : decode cL_isSibling 28 = .ok (.iload_n 2, 1) := by decide +kernel
theorem dL_isSibling_29 : decode cL_isSibling 29 = .ok (.iload_n 3, 1) := by decide +kernel
theorem dL_isSibling_30 : decode cL_isSibling 30 = .ok (.iconst 2, 1) := by decide +kernel
theorem dL_isSibling_31 : decode cL_isSibling 31 = .ok (.invokevirtual 43, 3) := by decide +kernel
theorem dL_isSibling_34 : decode cL_isSibling 34 = .ok (.iload 6, 2) := by decide +kernel
theorem dL_isSibling_36 : decode cL_isSibling 36 = .ok (.if_icmp .ne 33, 3) := by decide +kernel
theorem dL_isSibling_39 : decode cL_isSibling 39 = .ok (.aload_n 0, 1) := by decide +kernel
theorem dL_isSibling_40 : decode cL_isSibling 40 = .ok (.iload_n 1, 1) := by decide +kernel
theorem dL_isSibling_41 : decode cL_isSibling 41 = .ok (.iload_n 2, 1) := by decide +kernel
theorem dL_isSibling_42 : decode cL_isSibling 42 = .ok (.iload_n 3, 1) := by decide +kernel
theorem dL_isSibling_43 : decode cL_isSibling 43 = .ok (.iconst 3, 1) := by decide +kernel
theorem dL_isSibling_44 : decode cL_isSibling 44 = .ok (.invokevirtual 43, 3) := by decide +kernel
theorem dL_isSibling_47 : decode cL_isSibling 47 = .ok (.iload 7, 2) := by decide +kernel
theorem dL_isSibling_49 : decode cL_isSibling 49 = .ok (.if_icmp .ne 20, 3) := by decide +kernel
theorem dL_isSibling_52 : decode cL_isSibling 52 = .ok (.aload_n 0, 1) := by decide +kernel
theorem dL_isSibling_53 : decode cL_isSibling 53 = .ok (.iload_n 1, 1) := by decide +kernel
theorem dL_isSibling_54 : decode cL_isSibling 54 = .ok (.iload_n 2, 1) := by decide +kernel
theorem dL_isSibling_55 : decode cL_isSibling 55 = .ok (.iload_n 3, 1) := by decide +kernel
theorem dL_isSibling_56 : decode cL_isSibling 56 = .ok (.iconst 4, 1) := by decide +kernel
theorem dL_isSibling_57 : decode cL_isSibling 57 = .ok (.invokevirtual 43, 3) := by decide +kernel
theorem dL_isSibling_60 : decode cL_isSibling 60 = .ok (.iload 8, 2) := by decide +kernel
theorem dL_isSibling_62 : decode cL_isSibling 62 = .ok (.if_icmp .ne 7, 3) := by decide +kernel
theorem dL_isSibling_65 : decode cL_isSibling 65 = .ok (.iconst 1, 1) := by decide +kernel
theorem dL_isSibling_66 : decode cL_isSibling 66 = .ok (.goto 4, 3) := by decide +kernel
theorem dL_isSibling_69 : decode cL_isSibling 69 = .ok (.iconst 0, 1) := by decide +kernel
theorem dL_isSibling_70 : decode cL_isSibling 70 = .ok (.ireturn, 1) := by decide +kernel
theorem dL_keys_0 : decode cL_keys 0 = .ok (.new 10, 3) := by decide +kernel
theorem dL_keys_3 : decode cL_keys 3 = .ok (.dup, 1) := by decide +kernel
theorem dL_keys_4 : decode cL_keys 4 = .ok (.invokespecial 101, 3) := by decide +kernel
theorem dL_keys_7 : decode cL_keys 7 = .ok (.astore_n 0, 1) := by decide +kernel
theorem dL_keys_8 : decode cL_keys 8 = .ok (.aload_n 0, 1) := by decide +kernel
theorem dL_keys_9 : decode cL_keys 9 = .ok (.bipush 8, 2) := by decide +kernel
theorem dL_keys_11 : decode cL_keys 11 = .ok (.iconst 0, 1) := by decide +kernel
theorem dL_keys_12 : decode cL_keys 12 = .ok (.iconst 0, 1) := by decide +kernel
theorem dL_keys_13 : decode cL_keys 13 = .ok (.iconst 0, 1) := by decide +kernel
theorem dL_keys_14 : decode cL_keys 14 = .ok (.iconst 0, 1) := by decide +kernel
theorem dL_keys_15 : decode cL_keys 15 = .ok (.invokestatic 86, 3) := by decide +kernel
theorem dL_keys_18 : decode cL_keys 18 = .ok (.bipush (-13), 2) := by decide +kernel
theorem dL_keys_20 : decode cL_keys 20 = .ok (.if_icmp .ne 151, 3) := by decide +kernel
theorem dL_keys_23 : decode cL_keys 23 = .ok (.aload_n 0, 1) := by decide +kernel
theorem dL_keys_24 : decode cL_keys 24 = .ok (.iconst 3, 1) := by decide +kernel
theorem dL_keys_25 : decode cL_keys 25 = .ok (.iconst 0, 1) := by decide +kernel
theorem dL_keys_26 : decode cL_keys 26 = .ok (.iconst 0, 1) := by decide +kernel
theorem dL_keys_27 : decode cL_keys 27 = .ok (.iconst 0, 1) := by decide +kernel
theorem dL_keys_28 : decode cL_keys 28 = .ok (.iconst 0, 1) := by decide +kernel
theorem dL_keys_29 : decode cL_keys 29 = .ok (.invokestatic 86, 3) := by decide +kernel
theorem dL_keys_32 : decode cL_keys 32 = .ok (.bipush (-13), 2) := by decide +kernel
theorem dL_keys_34 : decode cL_keys 34 = .ok (.if_icmp .ne 137, 3) := by decide +kernel
theorem dL_keys_37 : decode cL_keys 37 = .ok (.aload_n 0, 1) := by decide +kernel
theorem dL_keys_38 : decode cL_keys 38 = .ok (.invokevirtual 102, 3) := by decide +kernel
theorem dL_keys_41 : decode cL_keys 41 = .ok (.dconst 1, 1) := by decide +kernel
theorem dL_keys_42 : decode cL_keys 42 = .ok (.dcmp .l, 1) := by decide +kernel
theorem dL_keys_43 : decode cL_keys 43 = .ok (.ifCond .ne 128, 3) := by decide +kernel
theorem dL_keys_46 : decode cL_keys 46 = .ok (.aload_n 0, 1) := by decide +kernel
theorem dL_keys_47 : decode cL_keys 47 = .ok (.invokevirtual 67, 3) := by decide +kernel
theorem dL_keys_50 : decode cL_keys 50 = .ok (.ifCond .ne 121, 3) := by decide +kernel
theorem dL_keys_53 : decode cL_keys 53 = .ok (.aload_n 0, 1) := by decide +kernel
theorem dL_keys_54 : decode cL_keys 54 = .ok (.invokevirtual 40, 3) := by decide +kernel
theorem dL_keys_57 : decode cL_keys 57 = .ok (.ifCond .ne 114, 3) := by decide +kernel
theorem dL_keys_60 : decode cL_keys 60 = .ok (.aload_n 0, 1) := by decide +kernel
theorem dL_keys_61 : decode cL_keys 61 = .ok (.iconst 0, 1) := by decide +kernel
theorem dL_keys_62 : decode cL_keys 62 = .ok (.iconst 1, 1) := by decide +kernel
theorem dL_keys_63 : decode cL_keys 63 = .ok (.iconst 0, 1) := by decide +kernel
theorem dL_keys_64 : decode cL_keys 64 = .ok (.bipush 10, 2) := by decide +kernel
theorem dL_keys_66 : decode cL_keys 66 = .ok (.invokevirtual 15, 3) := by decide +kernel
theorem dL_keys_69 : decode cL_keys 69 = .ok (.ifCond .ne 102, 3) := by decide +kernel
theorem dL_keys_72 : decode cL_keys 72 = .ok (.aload_n 0, 1) := by decide +kernel
theorem dL_keys_73 : decode cL_keys 73 = .ok (.iconst 0, 1) := by decide +kernel
theorem dL_keys_74 : decode cL_keys 74 = .ok (.iconst 1, 1) := by decide +kernel
theorem dL_keys_75 : decode cL_keys 75 = .ok (.iconst 0, 1) := by decide +kernel
theorem dL_keys_76 : decode cL_keys 76 = .ok (.invokevirtual 46, 3) := by decide +kernel
theorem dL_keys_79 : decode cL_keys 79 = .ok (.iconst 1, 1) := by decide +kernel
theorem dL_keys_80 : decode cL_keys 80 = .ok (.if_icmp .ne 91, 3) := by decide +kernel
theorem dL_keys_83 : decode cL_keys 83 = .ok (.aload_n 0, 1) := by decide +kernel
theorem dL_keys_84 : decode cL_keys 84 = .ok (.iconst 0, 1) := by decide +kernel
theorem dL_keys_85 : decode cL_keys 85 = .ok (.iconst 1, 1) := by decide +kernel
theorem dL_keys_86 : decode cL_keys 86 = .ok (.iconst 0, 1) := by decide +kernel
theorem dL_keys_87 : decode cL_keys 87 = .ok (.invokevirtual 49, 3) := by decide +kernel
theorem dL_keys_90 : decode cL_keys 90 = .ok (.iconst 1, 1) := by decide +kernel
theorem dL_keys_91 : decode cL_keys 91 = .ok (.if_icmp .ne 80, 3) := by decide +kernel
theorem dL_keys_94 : decode cL_keys 94 = .ok (.aload_n 0, 1) := by decide +kernel
theorem dL_keys_95 : decode cL_keys 95 = .ok (.iconst 1, 1) := by decide +kernel
theorem dL_keys_96 : decode cL_keys 96 = .ok (.iconst 1, 1) := by decide +kernel
theorem dL_keys_97 : decode cL_keys 97 = .ok (.iconst 0, 1) := by decide +kernel
theorem dL_keys_98 : decode cL_keys 98 = .ok (.bipush 20, 2) := by decide +kernel
theorem dL_keys_100 : decode cL_keys 100 = .ok (.invokevirtual 15, 3) := by decide +kernel
theorem dL_keys_103 : decode cL_keys 103 = .ok (.ifCond .ne 68, 3) := by decide +kernel
theorem dL_keys_106 : decode cL_keys 106 = .ok (.aload_n 0, 1) := by decide +kernel
theorem dL_keys_107 : decode cL_keys 107 = .ok (.iconst 1, 1) := by decide +kernel
theorem dL_keys_108 : decode cL_keys 108 = .ok (.iconst 0, 1) := by decide +kernel
theorem dL_keys_109 : decode cL_keys 109 = .ok (.invokevirtual 52, 3) := by decide +kernel
theorem dL_keys_112 : decode cL_keys 112 = .ok (.iconst 2, 1) := by decide +kernel
theorem dL_keys_113 : decode cL_keys 113 = .ok (.if_icmp .ne 58, 3) := by decide +kernel
theorem dL_keys_116 : decode cL_keys 116 = .ok (.aload_n 0, 1) := by decide +kernel
theorem dL_keys_117 : decode cL_keys 117 = .ok (.iconst 0, 1) := by decide +kernel
theorem dL_keys_118 : decode cL_keys 118 = .ok (.iconst 1, 1) := by decide +kernel
theorem dL_keys_119 : decode cL_keys 119 = .ok (.iconst 0, 1) := by decide +kernel
theorem dL_keys_120 : decode cL_keys 120 = .ok (.iconst 0, 1) := by decide +kernel
theorem dL_keys_121 : decode cL_keys 121 = .ok (.iconst 1, 1) := by decide +kernel
theorem dL_keys_122 : decode cL_keys 122 = .ok (.bipush 10, 2) := by decide +kernel
theorem dL_keys_124 : decode cL_keys 124 = .ok (.iconst 1, 1) := by decide +kernel
theorem dL_keys_125 : decode cL_keys 125 = .ok (.iconst 1, 1) := by decide +kernel
theorem dL_keys_126 : decode cL_keys 126 = .ok (.invokestatic 106, 3) := by decide +kernel
theorem dL_keys_129 : decode cL_keys 129 = .ok (.ifCond .eq 42, 3) := by decide +kernel
theorem dL_keys_132 : decode cL_keys 132 = .ok (.aload_n 0, 1) := by decide +kernel
theorem dL_keys_133 : decode cL_keys 133 = .ok (.iconst 0, 1) := by decide +kernel
theorem dL_keys_134 : decode cL_keys 134 = .ok (.iconst 1, 1) := by decide +kernel
theorem dL_keys_135 : decode cL_keys 135 = .ok (.iconst 1, 1) := by decide +kernel
theorem dL_keys_136 : decode cL_keys 136 = .ok (.iconst 1, 1) := by decide +kernel
theorem dL_keys_137 : decode cL_keys 137 = .ok (.iconst 1, 1) := by decide +kernel
theorem dL_keys_138 : decode cL_keys 138 = .ok (.bipush 20, 2) := by decide +kernel
theorem dL_keys_140 : decode cL_keys 140 = .ok (.iconst 2, 1) := by decide +kernel
theorem dL_keys_141 : decode cL_keys 141 = .ok (.iconst 1, 1) := by decide +kernel
theorem dL_keys_142 : decode cL_keys 142 = .ok (.invokestatic 106, 3) := by decide +kernel
theorem dL_keys_145 : decode cL_keys 145 = .ok (.ifCond .eq 26, 3) := by decide +kernel
theorem dL_keys_148 : decode cL_keys 148 = .ok (.aload_n 0, 1) := by decide +kernel
theorem dL_keys_149 : decode cL_keys 149 = .ok (.iconst 0, 1) := by decide +kernel
theorem dL_keys_150 : decode cL_keys 150 = .ok (.iconst 1, 1) := by decide +kernel
theorem dL_keys_151 : decode cL_keys 151 = .ok (.iconst 2, 1) := by decide +kernel
theorem dL_keys_152 : decode cL_keys 152 = .ok (.iconst 0, 1) := by decide +kernel
theorem dL_keys_153 : decode cL_keys 153 = .ok (.invokevirtual 43, 3) := by decide +kernel
theorem dL_keys_156 : decode cL_keys 156 = .ok (.iconst (-1), 1) := by decide +kernel
theorem dL_keys_157 : decode cL_keys 157 = .ok (.if_icmp .ne 14, 3) := by decide +kernel
theorem dL_keys_160 : decode cL_keys 160 = .ok (.aload_n 0, 1) := by decide +kernel
theorem dL_keys_161 : decode cL_keys 161 = .ok (.invokevirtual 102, 3) := by decide +kernel
theorem dL_keys_164 : decode cL_keys 164 = .ok (.ldc2_w 110, 3) := by decide +kernel
theorem dL_keys_167 : decode cL_keys 167 = .ok (.dcmp .l, 1) := by decide +kernel
theorem dL_keys_168 : decode cL_keys 168 = .ok (.ifCond .eq 5, 3) := by decide +kernel
theorem dL_keys_171 : decode cL_keys 171 = .ok (.iconst 0, 1) := by decide +kernel
theorem dL_keys_172 : decode cL_keys 172 = .ok (.ireturn, 1) := by decide +kernel
theorem dL_keys_173 : decode cL_keys 173 = .ok (.aload_n 0, 1) := by decide +kernel
theorem dL_keys_174 : decode cL_keys 174 = .ok (.iconst 0, 1) := by decide +kernel
theorem dL_keys_175 : decode cL_keys 175 = .ok (.iconst 1, 1) := by decide +kernel
theorem dL_keys_176 : decode cL_keys 176 = .ok (.iconst 0, 1) := by decide +kernel
theorem dL_keys_177 : decode cL_keys 177 = .ok (.iconst 0, 1) := by decide +kernel
theorem dL_keys_178 : decode cL_keys 178 = .ok (.invokevirtual 58, 3) := by decide +kernel
theorem dL_keys_181 : decode cL_keys 181 = .ok (.iconst 1, 1) := by decide +kernel
theorem dL_keys_182 : decode cL_keys 182 = .ok (.if_icmp .ne 176, 3) := by decide +kernel
theorem dL_keys_185 : decode cL_keys 185 = .ok (.aload_n 0, 1) := by decide +kernel
theorem dL_keys_186 : decode cL_keys 186 = .ok (.iconst 0, 1) := by decide +kernel
theorem dL_keys_187 : decode cL_keys 187 = .ok (.iconst 1, 1) := by decide +kernel
theorem dL_keys_188 : decode cL_keys 188 = .ok (.iconst 0, 1) := by decide +kernel
theorem dL_keys_189 : decode cL_keys 189 = .ok (.iconst 1, 1) := by decide +kernel
theorem dL_keys_190 : decode cL_keys 190 = .ok (.invokevirtual 58, 3) := by decide +kernel
theorem dL_keys_193 : decode cL_keys 193 = .ok (.iconst 2, 1) := by decide +kernel
theorem dL_keys_194 : decode cL_keys 194 = .ok (.if_icmp .ne 164, 3) := by decide +kernel
theorem dL_keys_197 : decode cL_keys 197 = .ok (.aload_n 0, 1) := by decide +kernel
theorem dL_keys_198 : decode cL_keys 198 = .ok (.iconst 0, 1) := by decide +kernel
theorem dL_keys_199 : decode cL_keys 199 = .ok (.iconst 1, 1) := by decide +kernel
theorem dL_keys_200 : decode cL_keys 200 = .ok (.iconst 0, 1) := by decide +kernel
theorem dL_keys_201 : decode cL_keys 201 = .ok (.bipush 11, 2) := by decide +kernel
theorem dL_keys_203 : decode cL_keys 203 = .ok (.invokevirtual 15, 3) := by decide +kernel
theorem dL_keys_206 : decode cL_keys 206 = .ok (.iconst 1, 1) := by decide +kernel
theorem dL_keys_207 : decode cL_keys 207 = .ok (.if_icmp .ne 151, 3) := by decide +kernel
theorem dL_keys_210 : decode cL_keys 210 = .ok (.aload_n 0, 1) := by decide +kernel
theorem dL_keys_211 : decode cL_keys 211 = .ok (.iconst 0, 1) := by decide +kernel
theorem dL_keys_212 : decode cL_keys 212 = .ok (.iconst 1, 1) := by decide +kernel
theorem dL_keys_213 : decode cL_keys 213 = .ok (.iconst 0, 1) := by decide +kernel
theorem dL_keys_214 : decode cL_keys 214 = .ok (.iconst 0, 1) := by decide +kernel
theorem dL_keys_215 : decode cL_keys 215 = .ok (.iconst 2, 1) := by decide +kernel
theorem dL_keys_216 : decode cL_keys 216 = .ok (.bipush 11, 2) := by decide +kernel
theorem dL_keys_218 : decode cL_keys 218 = .ok (.iconst 1, 1) := by decide +kernel
theorem dL_keys_219 : decode cL_keys 219 = .ok (.iconst 1, 1) := by decide +kernel
theorem dL_keys_220 : decode cL_keys 220 = .ok (.invokestatic 106, 3) := by decide +kernel
theorem dL_keys_223 : decode cL_keys 223 = .ok (.ifCond .eq 135, 3) := by decide +kernel
theorem dL_keys_226 : decode cL_keys 226 = .ok (.aload_n 0, 1) := by decide +kernel
theorem dL_keys_227 : decode cL_keys 227 = .ok (.iconst 1, 1) := by decide +kernel
theorem dL_keys_228 : decode cL_keys 228 = .ok (.iconst 0, 1) := by decide +kernel
theorem dL_keys_229 : decode cL_keys 229 = .ok (.iconst 1, 1) := by decide +kernel
theorem dL_keys_230 : decode cL_keys 230 = .ok (.iconst 1, 1) := by decide +kernel
theorem dL_keys_231 : decode cL_keys 231 = .ok (.invokevirtual 61, 3) := by decide +kernel
theorem dL_keys_234 : decode cL_keys 234 = .ok (.iconst 2, 1) := by decide +kernel
theorem dL_keys_235 : decode cL_keys 235 = .ok (.if_icmp .ne 123, 3) := by decide +kernel
theorem dL_keys_238 : decode cL_keys 238 = .ok (.aload_n 0, 1) := by decide +kernel
theorem dL_keys_239 : decode cL_keys 239 = .ok (.iconst 1, 1) := by decide +kernel
theorem dL_keys_240 : decode cL_keys 240 = .ok (.iconst 0, 1) := by decide +kernel
theorem dL_keys_241 : decode cL_keys 241 = .ok (.iconst 1, 1) := by decide +kernel
theorem dL_keys_242 : decode cL_keys 242 = .ok (.invokevirtual 19, 3) := by decide +kernel
theorem dL_keys_245 : decode cL_keys 245 = .ok (.ifCond .ne 113, 3) := by decide +kernel
theorem dL_keys_248 : decode cL_keys 248 = .ok (.aload_n 0, 1) := by decide +kernel
theorem dL_keys_249 : decode cL_keys 249 = .ok (.iconst 1, 1) := by decide +kernel
theorem dL_keys_250 : decode cL_keys 250 = .ok (.iconst 1, 1) := by decide +kernel
theorem dL_keys_251 : decode cL_keys 251 = .ok (.invokevirtual 52, 3) := by decide +kernel
theorem dL_keys_254 : decode cL_keys 254 = .ok (.iconst 2, 1) := by decide +kernel
theorem dL_keys_255 : decode cL_keys 255 = .ok (.if_icmp .ne 103, 3) := by decide +kernel
theorem dL_keys_258 : decode cL_keys 258 = .ok (.aload_n 0, 1) := by decide +kernel
theorem dL_keys_259 : decode cL_keys 259 = .ok (.iconst 1, 1) := by decide +kernel
theorem dL_keys_260 : decode cL_keys 260 = .ok (.iconst 1, 1) := by decide +kernel
theorem dL_keys_261 : decode cL_keys 261 = .ok (.iconst 0, 1) := by decide +kernel
theorem dL_keys_262 : decode cL_keys 262 = .ok (.invokevirtual 46, 3) := by decide +kernel
theorem dL_keys_265 : decode cL_keys 265 = .ok (.iconst 2, 1) := by decide +kernel
theorem dL_keys_266 : decode cL_keys 266 = .ok (.if_icmp .ne 92, 3) := by decide +kernel
theorem dL_keys_269 : decode cL_keys 269 = .ok (.aload_n 0, 1) := by decide +kernel
theorem dL_keys_270 : decode cL_keys 270 = .ok (.iconst 1, 1) := by decide +kernel
theorem dL_keys_271 : decode cL_keys 271 = .ok (.iconst 1, 1) := by decide +kernel
theorem dL_keys_272 : decode cL_keys 272 = .ok (.iconst 1, 1) := by decide +kernel
theorem dL_keys_273 : decode cL_keys 273 = .ok (.invokevirtual 46, 3) := by decide +kernel
theorem dL_keys_276 : decode cL_keys 276 = .ok (.iconst 1, 1) := by decide +kernel
theorem dL_keys_277 : decode cL_keys 277 = .ok (.if_icmp .ne 81, 3) := by decide +kernel
theorem dL_keys_280 : decode cL_keys 280 = .ok (.aload_n 0, 1) := by decide +kernel
theorem dL_keys_281 : decode cL_keys 281 = .ok (.iconst 2, 1) := by decide +kernel
theorem dL_keys_282 : decode cL_keys 282 = .ok (.iconst 1, 1) := by decide +kernel
theorem dL_keys_283 : decode cL_keys 283 = .ok (.iconst 1, 1) := by decide +kernel
theorem dL_keys_284 : decode cL_keys 284 = .ok (.invokevirtual 9, 3) := by decide +kernel
theorem dL_keys_287 : decode cL_keys 287 = .ok (.iconst 2, 1) := by decide +kernel
theorem dL_keys_288 : decode cL_keys 288 = .ok (.if_icmp .ne 70, 3) := by decide +kernel
theorem dL_keys_291 : decode cL_keys 291 = .ok (.aload_n 0, 1) := by decide +kernel
theorem dL_keys_292 : decode cL_keys 292 = .ok (.iconst 2, 1) := by decide +kernel
theorem dL_keys_293 : decode cL_keys 293 = .ok (.iconst 1, 1) := by decide +kernel
theorem dL_keys_294 : decode cL_keys 294 = .ok (.iconst 0, 1) := by decide +kernel
theorem dL_keys_295 : decode cL_keys 295 = .ok (.invokevirtual 49, 3) := by decide +kernel
theorem dL_keys_298 : decode cL_keys 298 = .ok (.iconst 2, 1) := by decide +kernel
theorem dL_keys_299 : decode cL_keys 299 = .ok (.if_icmp .ne 59, 3) := by decide +kernel
theorem dL_keys_302 : decode cL_keys 302 = .ok (.aload_n 0, 1) := by decide +kernel
theorem dL_keys_303 : decode cL_keys 303 = .ok (.iconst 2, 1) := by decide +kernel
theorem dL_keys_304 : decode cL_keys 304 = .ok (.iconst 1, 1) := by decide +kernel
theorem dL_keys_305 : decode cL_keys 305 = .ok (.iconst 1, 1) := by decide +kernel
theorem dL_keys_306 : decode cL_keys 306 = .ok (.invokevirtual 49, 3) := by decide +kernel
theorem dL_keys_309 : decode cL_keys 309 = .ok (.iconst 1, 1) := by decide +kernel
theorem dL_keys_310 : decode cL_keys 310 = .ok (.if_icmp .ne 48, 3) := by decide +kernel
theorem dL_keys_313 : decode cL_keys 313 = .ok (.aload_n 0, 1) := by decide +kernel
theorem dL_keys_314 : decode cL_keys 314 = .ok (.iconst 0, 1) := by decide +kernel
theorem dL_keys_315 : decode cL_keys 315 = .ok (.iconst 1, 1) := by decide +kernel
theorem dL_keys_316 : decode cL_keys 316 = .ok (.iconst 0, 1) := by decide +kernel
theorem dL_keys_317 : decode cL_keys 317 = .ok (.iconst 0, 1) := by decide +kernel
theorem dL_keys_318 : decode cL_keys 318 = .ok (.iconst 2, 1) := by decide +kernel
theorem dL_keys_319 : decode cL_keys 319 = .ok (.bipush 11, 2) := by decide +kernel
theorem dL_keys_321 : decode cL_keys 321 = .ok (.iconst 5, 1) := by decide +kernel
theorem dL_keys_322 : decode cL_keys 322 = .ok (.iconst 3, 1) := by decide +kernel
theorem dL_keys_323 : decode cL_keys 323 = .ok (.invokestatic 106, 3) := by decide +kernel
theorem dL_keys_326 : decode cL_keys 326 = .ok (.ifCond .eq 32, 3) := by decide +kernel
theorem dL_keys_329 : decode cL_keys 329 = .ok (.aload_n 0, 1) := by decide +kernel
theorem dL_keys_330 : decode cL_keys 330 = .ok (.iconst 2, 1) := by decide +kernel
theorem dL_keys_331 : decode cL_keys 331 = .ok (.iconst 1, 1) := by decide +kernel
theorem dL_keys_332 : decode cL_keys 332 = .ok (.iconst 1, 1) := by decide +kernel
theorem dL_keys_333 : decode cL_keys 333 = .ok (.bipush 30, 2) := by decide +kernel
theorem dL_keys_335 : decode cL_keys 335 = .ok (.invokevirtual 15, 3) := by decide +kernel
theorem dL_keys_338 : decode cL_keys 338 = .ok (.iconst 2, 1) := by decide +kernel
theorem dL_keys_339 : decode cL_keys 339 = .ok (.if_icmp .ne 19, 3) := by decide +kernel
theorem dL_keys_342 : decode cL_keys 342 = .ok (.aload_n 0, 1) := by decide +kernel
theorem dL_keys_343 : decode cL_keys 343 = .ok (.iconst 1, 1) := by decide +kernel
theorem dL_keys_344 : decode cL_keys 344 = .ok (.iconst 1, 1) := by decide +kernel
theorem dL_keys_345 : decode cL_keys 345 = .ok (.iconst 0, 1) := by decide +kernel
theorem dL_keys_346 : decode cL_keys 346 = .ok (.iconst 2, 1) := by decide +kernel
theorem dL_keys_347 : decode cL_keys 347 = .ok (.iconst 1, 1) := by decide +kernel
theorem dL_keys_348 : decode cL_keys 348 = .ok (.bipush 30, 2) := by decide +kernel
theorem dL_keys_350 : decode cL_keys 350 = .ok (.iconst 4, 1) := by decide +kernel
theorem dL_keys_351 : decode cL_keys 351 = .ok (.iconst 2, 1) := by decide +kernel
theorem dL_keys_352 : decode cL_keys 352 = .ok (.invokestatic 106, 3) := by decide +kernel
theorem dL_keys_355 : decode cL_keys 355 = .ok (.ifCond .ne 5, 3) := by decide +kernel
theorem dL_keys_358 : decode cL_keys 358 = .ok (.iconst 0, 1) := by decide +kernel
theorem dL_keys_359 : decode cL_keys 359 = .ok (.ireturn, 1) := by decide +kernel
theorem dL_keys_360 : decode cL_keys 360 = .ok (.aload_n 0, 1) := by decide +kernel
theorem dL_keys_361 : decode cL_keys 361 = .ok (.iconst 0, 1) := by decide +kernel
theorem dL_keys_362 : decode cL_keys 362 = .ok (.iconst 1, 1) := by decide +kernel
theorem dL_keys_363 : decode cL_keys 363 = .ok (.iconst 1, 1) := by decide +kernel
theorem dL_keys_364 : decode cL_keys 364 = .ok (.iconst 0, 1) := by decide +kernel
theorem dL_keys_365 : decode cL_keys 365 = .ok (.invokevirtual 61, 3) := by decide +kernel
theorem dL_keys_368 : decode cL_keys 368 = .ok (.iconst 2, 1) := by decide +kernel
theorem dL_keys_369 : decode cL_keys 369 = .ok (.if_icmp .ne 187, 3) := by decide +kernel
theorem dL_keys_372 : decode cL_keys 372 = .ok (.aload_n 0, 1) := by decide +kernel
theorem dL_keys_373 : decode cL_keys 373 = .ok (.iconst 0, 1) := by decide +kernel
theorem dL_keys_374 : decode cL_keys 374 = .ok (.iconst 1, 1) := by decide +kernel
theorem dL_keys_375 : decode cL_keys 375 = .ok (.iconst 1, 1) := by decide +kernel
theorem dL_keys_376 : decode cL_keys 376 = .ok (.iconst 1, 1) := by decide +kernel
theorem dL_keys_377 : decode cL_keys 377 = .ok (.invokevirtual 61, 3) := by decide +kernel
theorem dL_keys_380 : decode cL_keys 380 = .ok (.iconst 1, 1) := by decide +kernel
theorem dL_keys_381 : decode cL_keys 381 = .ok (.if_icmp .ne 175, 3) := by decide +kernel
theorem dL_keys_384 : decode cL_keys 384 = .ok (.aload_n 0, 1) := by decide +kernel
theorem dL_keys_385 : decode cL_keys 385 = .ok (.iconst 0, 1) := by decide +kernel
theorem dL_keys_386 : decode cL_keys 386 = .ok (.iconst 1, 1) := by decide +kernel
theorem dL_keys_387 : decode cL_keys 387 = .ok (.iconst 1, 1) := by decide +kernel
theorem dL_keys_388 : decode cL_keys 388 = .ok (.iconst 2, 1) := by decide +kernel
theorem dL_keys_389 : decode cL_keys 389 = .ok (.invokevirtual 61, 3) := by decide +kernel
theorem dL_keys_392 : decode cL_keys 392 = .ok (.iconst 1, 1) := by decide +kernel
theorem dL_keys_393 : decode cL_keys 393 = .ok (.if_icmp .ne 163, 3) := by decide +kernel
theorem dL_keys_396 : decode cL_keys 396 = .ok (.aload_n 0, 1) := by decide +kernel
theorem dL_keys_397 : decode cL_keys 397 = .ok (.iconst 0, 1) := by decide +kernel
theorem dL_keys_398 : decode cL_keys 398 = .ok (.iconst 1, 1) := by decide +kernel
theorem dL_keys_399 : decode cL_keys 399 = .ok (.iconst 1, 1) := by decide +kernel
theorem dL_keys_400 : decode cL_keys 400 = .ok (.invokevirtual 19, 3) := by decide +kernel
theorem dL_keys_403 : decode cL_keys 403 = .ok (.iconst 2, 1) := by decide +kernel
theorem dL_keys_404 : decode cL_keys 404 = .ok (.if_icmp .ne 152, 3) := by decide +kernel
theorem dL_keys_407 : decode cL_keys 407 = .ok (.aload_n 0, 1) := by decide +kernel
theorem dL_keys_408 : decode cL_keys 408 = .ok (.iconst 1, 1) := by decide +kernel
theorem dL_keys_409 : decode cL_keys 409 = .ok (.iconst 0, 1) := by decide +kernel
theorem dL_keys_410 : decode cL_keys 410 = .ok (.invokevirtual 52, 3) := by decide +kernel
theorem dL_keys_413 : decode cL_keys 413 = .ok (.iconst 1, 1) := by decide +kernel
theorem dL_keys_414 : decode cL_keys 414 = .ok (.if_icmp .ne 142, 3) := by decide +kernel
theorem dL_keys_417 : decode cL_keys 417 = .ok (.aload_n 0, 1) := by decide +kernel
theorem dL_keys_418 : decode cL_keys 418 = .ok (.iconst 1, 1) := by decide +kernel
theorem dL_keys_419 : decode cL_keys 419 = .ok (.iconst 5, 1) := by decide +kernel
theorem dL_keys_420 : decode cL_keys 420 = .ok (.invokevirtual 52, 3) := by decide +kernel
theorem dL_keys_423 : decode cL_keys 423 = .ok (.ifCond .ne 133, 3) := by decide +kernel
theorem dL_keys_426 : decode cL_keys 426 = .ok (.aload_n 0, 1) := by decide +kernel
theorem dL_keys_427 : decode cL_keys 427 = .ok (.iconst 2, 1) := by decide +kernel
theorem dL_keys_428 : decode cL_keys 428 = .ok (.iconst 0, 1) := by decide +kernel
theorem dL_keys_429 : decode cL_keys 429 = .ok (.iconst 1, 1) := by decide +kernel
theorem dL_keys_430 : decode cL_keys 430 = .ok (.invokevirtual 19, 3) := by decide +kernel
theorem dL_keys_433 : decode cL_keys 433 = .ok (.ifCond .ne 123, 3) := by decide +kernel
theorem dL_keys_436 : decode cL_keys 436 = .ok (.aload_n 0, 1) := by decide +kernel
theorem dL_keys_437 : decode cL_keys 437 = .ok (.iconst 1, 1) := by decide +kernel
theorem dL_keys_438 : decode cL_keys 438 = .ok (.iconst 5, 1) := by decide +kernel
theorem dL_keys_439 : decode cL_keys 439 = .ok (.invokevirtual 52, 3) := by decide +kernel
theorem dL_keys_442 : decode cL_keys 442 = .ok (.iconst 1, 1) := by decide +kernel
theorem dL_keys_443 : decode cL_keys 443 = .ok (.if_icmp .ne 113, 3) := by decide +kernel
theorem dL_keys_446 : decode cL_keys 446 = .ok (.aload_n 0, 1) := by decide +kernel
theorem dL_keys_447 : decode cL_keys 447 = .ok (.iconst 1, 1) := by decide +kernel
theorem dL_keys_448 : decode cL_keys 448 = .ok (.bipush 6, 2) := by decide +kernel
theorem dL_keys_450 : decode cL_keys 450 = .ok (.invokevirtual 52, 3) := by decide +kernel
theorem dL_keys_453 : decode cL_keys 453 = .ok (.iconst 1, 1) := by decide +kernel
theorem dL_keys_454 : decode cL_keys 454 = .ok (.if_icmp .ne 102, 3) := by decide +kernel
theorem dL_keys_457 : decode cL_keys 457 = .ok (.aload_n 0, 1) := by decide +kernel
theorem dL_keys_458 : decode cL_keys 458 = .ok (.iconst 1, 1) := by decide +kernel
theorem dL_keys_459 : decode cL_keys 459 = .ok (.iconst 3, 1) := by decide +kernel
theorem dL_keys_460 : decode cL_keys 460 = .ok (.invokevirtual 52, 3) := by decide +kernel
theorem dL_keys_463 : decode cL_keys 463 = .ok (.iconst 1, 1) := by decide +kernel
theorem dL_keys_464 : decode cL_keys 464 = .ok (.if_icmp .ne 92, 3) := by decide +kernel
theorem dL_keys_467 : decode cL_keys 467 = .ok (.aload_n 0, 1) := by decide +kernel
theorem dL_keys_468 : decode cL_keys 468 = .ok (.iconst 1, 1) := by decide +kernel
theorem dL_keys_469 : decode cL_keys 469 = .ok (.bipush 7, 2) := by decide +kernel
theorem dL_keys_471 : decode cL_keys 471 = .ok (.invokevirtual 52, 3) := by decide +kernel
theorem dL_keys_474 : decode cL_keys 474 = .ok (.iconst 3, 1) := by decide +kernel
theorem dL_keys_475 : decode cL_keys 475 = .ok (.if_icmp .ne 81, 3) := by decide +kernel
theorem dL_keys_478 : decode cL_keys 478 = .ok (.aload_n 0, 1) := by decide +kernel
theorem dL_keys_479 : decode cL_keys 479 = .ok (.invokevirtual 102, 3) := by decide +kernel
theorem dL_keys_482 : decode cL_keys 482 = .ok (.dconst 1, 1) := by decide +kernel
theorem dL_keys_483 : decode cL_keys 483 = .ok (.dcmp .l, 1) := by decide +kernel
theorem dL_keys_484 : decode cL_keys 484 = .ok (.ifCond .ne 72, 3) := by decide +kernel
theorem dL_keys_487 : decode cL_keys 487 = .ok (.aload_n 0, 1) := by decide +kernel
theorem dL_keys_488 : decode cL_keys 488 = .ok (.iconst 0, 1) := by decide +kernel
theorem dL_keys_489 : decode cL_keys 489 = .ok (.iconst 1, 1) := by decide +kernel
theorem dL_keys_490 : decode cL_keys 490 = .ok (.invokevirtual 64, 3) := by decide +kernel
theorem dL_keys_493 : decode cL_keys 493 = .ok (.ifCond .ne 63, 3) := by decide +kernel
theorem dL_keys_496 : decode cL_keys 496 = .ok (.aload_n 0, 1) := by decide +kernel
theorem dL_keys_497 : decode cL_keys 497 = .ok (.iconst 2, 1) := by decide +kernel
theorem dL_keys_498 : decode cL_keys 498 = .ok (.iconst 1, 1) := by decide +kernel
theorem dL_keys_499 : decode cL_keys 499 = .ok (.invokevirtual 64, 3) := by decide +kernel
theorem dL_keys_502 : decode cL_keys 502 = .ok (.iconst 1, 1) := by decide +kernel
theorem dL_keys_503 : decode cL_keys 503 = .ok (.if_icmp .ne 53, 3) := by decide +kernel
theorem dL_keys_506 : decode cL_keys 506 = .ok (.aload_n 0, 1) := by decide +kernel
theorem dL_keys_507 : decode cL_keys 507 = .ok (.iconst 3, 1) := by decide +kernel
theorem dL_keys_508 : decode cL_keys 508 = .ok (.iconst 1, 1) := by decide +kernel
theorem dL_keys_509 : decode cL_keys 509 = .ok (.invokevirtual 64, 3) := by decide +kernel
theorem dL_keys_512 : decode cL_keys 512 = .ok (.ifCond .ne 44, 3) := by decide +kernel
theorem dL_keys_515 : decode cL_keys 515 = .ok (.aload_n 0, 1) := by decide +kernel
theorem dL_keys_516 : decode cL_keys 516 = .ok (.iconst 5, 1) := by decide +kernel
theorem dL_keys_517 : decode cL_keys 517 = .ok (.iconst 2, 1) := by decide +kernel
theorem dL_keys_518 : decode cL_keys 518 = .ok (.iconst 1, 1) := by decide +kernel
theorem dL_keys_519 : decode cL_keys 519 = .ok (.iconst 0, 1) := by decide +kernel
theorem dL_keys_520 : decode cL_keys 520 = .ok (.iconst 0, 1) := by decide +kernel
theorem dL_keys_521 : decode cL_keys 521 = .ok (.invokestatic 86, 3) := by decide +kernel
theorem dL_keys_524 : decode cL_keys 524 = .ok (.bipush (-13), 2) := by decide +kernel
theorem dL_keys_526 : decode cL_keys 526 = .ok (.if_icmp .ne 30, 3) := by decide +kernel
theorem dL_keys_529 : decode cL_keys 529 = .ok (.aload_n 0, 1) := by decide +kernel
theorem dL_keys_530 : decode cL_keys 530 = .ok (.iconst 2, 1) := by decide +kernel
theorem dL_keys_531 : decode cL_keys 531 = .ok (.invokevirtual 55, 3) := by decide +kernel
theorem dL_keys_534 : decode cL_keys 534 = .ok (.iconst 4, 1) := by decide +kernel
theorem dL_keys_535 : decode cL_keys 535 = .ok (.if_icmp .ne 21, 3) := by decide +kernel
theorem dL_keys_538 : decode cL_keys 538 = .ok (.aload_n 0, 1) := by decide +kernel
theorem dL_keys_539 : decode cL_keys 539 = .ok (.iconst 3, 1) := by decide +kernel
theorem dL_keys_540 : decode cL_keys 540 = .ok (.invokevirtual 55, 3) := by decide +kernel
theorem dL_keys_543 : decode cL_keys 543 = .ok (.iconst 3, 1) := by decide +kernel
theorem dL_keys_544 : decode cL_keys 544 = .ok (.if_icmp .ne 12, 3) := by decide +kernel
theorem dL_keys_547 : decode cL_keys 547 = .ok (.aload_n 0, 1) := by decide +kernel
theorem dL_keys_548 : decode cL_keys 548 = .ok (.iconst 4, 1) := by decide +kernel
theorem dL_keys_549 : decode cL_keys 549 = .ok (.invokevirtual 55, 3) := by decide +kernel
theorem dL_keys_552 : decode cL_keys 552 = .ok (.iconst 2, 1) := by decide +kernel
theorem dL_keys_553 : decode cL_keys 553 = .ok (.if_icmp .eq 5, 3) := by decide +kernel
theorem dL_keys_556 : decode cL_keys 556 = .ok (.iconst 0, 1) := by decide +kernel
theorem dL_keys_557 : decode cL_keys 557 = .ok (.ireturn, 1) := by decide +kernel
theorem dL_keys_558 : decode cL_keys 558 = .ok (.aload_n 0, 1) := by decide +kernel
theorem dL_keys_559 : decode cL_keys 559 = .ok (.invokestatic 112, 3) := by decide +kernel
theorem dL_keys_562 : decode cL_keys 562 = .ok (.ifCond .eq 127, 3) := by decide +kernel
theorem dL_keys_565 : decode cL_keys 565 = .ok (.aload_n 0, 1) := by decide +kernel
theorem dL_keys_566 : decode cL_keys 566 = .ok (.iconst 0, 1) := by decide +kernel
theorem dL_keys_567 : decode cL_keys 567 = .ok (.iconst 1, 1) := by decide +kernel
theorem dL_keys_568 : decode cL_keys 568 = .ok (.invokevirtual 29, 3) := by decide +kernel
theorem dL_keys_571 : decode cL_keys 571 = .ok (.iconst 2, 1) := by decide +kernel
theorem dL_keys_572 : decode cL_keys 572 = .ok (.if_icmp .ne 117, 3) := by decide +kernel
theorem dL_keys_575 : decode cL_keys 575 = .ok (.aload_n 0, 1) := by decide +kernel
theorem dL_keys_576 : decode cL_keys 576 = .ok (.iconst 0, 1) := by decide +kernel
theorem dL_keys_577 : decode cL_keys 577 = .ok (.iconst 1, 1) := by decide +kernel
theorem dL_keys_578 : decode cL_keys 578 = .ok (.iconst 0, 1) := by decide +kernel
theorem dL_keys_579 : decode cL_keys 579 = .ok (.invokevirtual 46, 3) := by decide +kernel
theorem dL_keys_582 : decode cL_keys 582 = .ok (.ifCond .ne 107, 3) := by decide +kernel
theorem dL_keys_585 : decode cL_keys 585 = .ok (.aload_n 0, 1) := by decide +kernel
theorem dL_keys_586 : decode cL_keys 586 = .ok (.iconst 2, 1) := by decide +kernel
theorem dL_keys_587 : decode cL_keys 587 = .ok (.iconst 1, 1) := by decide +kernel
theorem dL_keys_588 : decode cL_keys 588 = .ok (.iconst 0, 1) := by decide +kernel
theorem dL_keys_589 : decode cL_keys 589 = .ok (.invokevirtual 49, 3) := by decide +kernel
theorem dL_keys_592 : decode cL_keys 592 = .ok (.ifCond .ne 97, 3) := by decide +kernel
theorem dL_keys_595 : decode cL_keys 595 = .ok (.aload_n 0, 1) := by decide +kernel
theorem dL_keys_596 : decode cL_keys 596 = .ok (.iconst 0, 1) := by decide +kernel
theorem dL_keys_597 : decode cL_keys 597 = .ok (.iconst 1, 1) := by decide +kernel
theorem dL_keys_598 : decode cL_keys 598 = .ok (.iconst 0, 1) := by decide +kernel
theorem dL_keys_599 : decode cL_keys 599 = .ok (.invokevirtual 49, 3) := by decide +kernel
theorem dL_keys_602 : decode cL_keys 602 = .ok (.ifCond .ne 87, 3) := by decide +kernel
theorem dL_keys_605 : decode cL_keys 605 = .ok (.aload_n 0, 1) := by decide +kernel
theorem dL_keys_606 : decode cL_keys 606 = .ok (.iconst 1, 1) := by decide +kernel
theorem dL_keys_607 : decode cL_keys 607 = .ok (.iconst 4, 1) := by decide +kernel
theorem dL_keys_608 : decode cL_keys 608 = .ok (.invokevirtual 52, 3) := by decide +kernel
theorem dL_keys_611 : decode cL_keys 611 = .ok (.iconst 2, 1) := by decide +kernel
theorem dL_keys_612 : decode cL_keys 612 = .ok (.if_icmp .ne 77, 3) := by decide +kernel
theorem dL_keys_615 : decode cL_keys 615 = .ok (.aload_n 0, 1) := by decide +kernel
theorem dL_keys_616 : decode cL_keys 616 = .ok (.bipush 6, 2) := by decide +kernel
theorem dL_keys_618 : decode cL_keys 618 = .ok (.invokevirtual 55, 3) := by decide +kernel
theorem dL_keys_621 : decode cL_keys 621 = .ok (.iconst 1, 1) := by decide +kernel
theorem dL_keys_622 : decode cL_keys 622 = .ok (.if_icmp .ne 67, 3) := by decide +kernel
theorem dL_keys_625 : decode cL_keys 625 = .ok (.aload_n 0, 1) := by decide +kernel
theorem dL_keys_626 : decode cL_keys 626 = .ok (.iconst 0, 1) := by decide +kernel
theorem dL_keys_627 : decode cL_keys 627 = .ok (.iconst 1, 1) := by decide +kernel
theorem dL_keys_628 : decode cL_keys 628 = .ok (.iconst 2, 1) := by decide +kernel
theorem dL_keys_629 : decode cL_keys 629 = .ok (.bipush 99, 2) := by decide +kernel
theorem dL_keys_631 : decode cL_keys 631 = .ok (.invokevirtual 15, 3) := by decide +kernel
theorem dL_keys_634 : decode cL_keys 634 = .ok (.ifCond .ne 55, 3) := by decide +kernel
theorem dL_keys_637 : decode cL_keys 637 = .ok (.aload_n 0, 1) := by decide +kernel
theorem dL_keys_638 : decode cL_keys 638 = .ok (.iconst 2, 1) := by decide +kernel
theorem dL_keys_639 : decode cL_keys 639 = .ok (.iconst 1, 1) := by decide +kernel
theorem dL_keys_640 : decode cL_keys 640 = .ok (.iconst 0, 1) := by decide +kernel
theorem dL_keys_641 : decode cL_keys 641 = .ok (.iconst 0, 1) := by decide +kernel
theorem dL_keys_642 : decode cL_keys 642 = .ok (.iconst 1, 1) := by decide +kernel
theorem dL_keys_643 : decode cL_keys 643 = .ok (.bipush 99, 2) := by decide +kernel
theorem dL_keys_645 : decode cL_keys 645 = .ok (.iconst 1, 1) := by decide +kernel
theorem dL_keys_646 : decode cL_keys 646 = .ok (.iconst 4, 1) := by decide +kernel
theorem dL_keys_647 : decode cL_keys 647 = .ok (.invokestatic 106, 3) := by decide +kernel
theorem dL_keys_650 : decode cL_keys 650 = .ok (.ifCond .eq 39, 3) := by decide +kernel
theorem dL_keys_653 : decode cL_keys 653 = .ok (.aload_n 0, 1) := by decide +kernel
theorem dL_keys_654 : decode cL_keys 654 = .ok (.iconst 2, 1) := by decide +kernel
theorem dL_keys_655 : decode cL_keys 655 = .ok (.iconst 1, 1) := by decide +kernel
theorem dL_keys_656 : decode cL_keys 656 = .ok (.iconst 1, 1) := by decide +kernel
theorem dL_keys_657 : decode cL_keys 657 = .ok (.iconst 2, 1) := by decide +kernel
theorem dL_keys_658 : decode cL_keys 658 = .ok (.iconst 1, 1) := by decide +kernel
theorem dL_keys_659 : decode cL_keys 659 = .ok (.bipush 30, 2) := by decide +kernel
theorem dL_keys_661 : decode cL_keys 661 = .ok (.iconst 4, 1) := by decide +kernel
theorem dL_keys_662 : decode cL_keys 662 = .ok (.bipush 7, 2) := by decide +kernel
theorem dL_keys_664 : decode cL_keys 664 = .ok (.invokestatic 106, 3) := by decide +kernel
theorem dL_keys_667 : decode cL_keys 667 = .ok (.ifCond .eq 22, 3) := by decide +kernel
theorem dL_keys_670 : decode cL_keys 670 = .ok (.aload_n 0, 1) := by decide +kernel
theorem dL_keys_671 : decode cL_keys 671 = .ok (.iconst 0, 1) := by decide +kernel
theorem dL_keys_672 : decode cL_keys 672 = .ok (.iconst 1, 1) := by decide +kernel
theorem dL_keys_673 : decode cL_keys 673 = .ok (.invokevirtual 64, 3) := by decide +kernel
theorem dL_keys_676 : decode cL_keys 676 = .ok (.iconst 1, 1) := by decide +kernel
theorem dL_keys_677 : decode cL_keys 677 = .ok (.if_icmp .ne 12, 3) := by decide +kernel
theorem dL_keys_680 : decode cL_keys 680 = .ok (.aload_n 0, 1) := by decide +kernel
theorem dL_keys_681 : decode cL_keys 681 = .ok (.iconst 1, 1) := by decide +kernel
theorem dL_keys_682 : decode cL_keys 682 = .ok (.iconst 1, 1) := by decide +kernel
theorem dL_keys_683 : decode cL_keys 683 = .ok (.invokevirtual 64, 3) := by decide +kernel
theorem dL_keys_686 : decode cL_keys 686 = .ok (.ifCond .eq 5, 3) := by decide +kernel
theorem dL_keys_689 : decode cL_keys 689 = .ok (.iconst 0, 1) := by decide +kernel
theorem dL_keys_690 : decode cL_keys 690 = .ok (.ireturn, 1) := by decide +kernel
theorem dL_keys_691 : decode cL_keys 691 = .ok (.aload_n 0, 1) := by decide +kernel
theorem dL_keys_692 : decode cL_keys 692 = .ok (.iconst 3, 1) := by decide +kernel
theorem dL_keys_693 : decode cL_keys 693 = .ok (.iconst 1, 1) := by decide +kernel
theorem dL_keys_694 : decode cL_keys 694 = .ok (.iconst 2, 1) := by decide +kernel
theorem dL_keys_695 : decode cL_keys 695 = .ok (.iconst 2, 1) := by decide +kernel
theorem dL_keys_696 : decode cL_keys 696 = .ok (.invokevirtual 22, 3) := by decide +kernel
theorem dL_keys_699 : decode cL_keys 699 = .ok (.bipush 29, 2) := by decide +kernel
theorem dL_keys_701 : decode cL_keys 701 = .ok (.if_icmp .ne 132, 3) := by decide +kernel
theorem dL_keys_704 : decode cL_keys 704 = .ok (.aload_n 0, 1) := by decide +kernel
theorem dL_keys_705 : decode cL_keys 705 = .ok (.iconst 1, 1) := by decide +kernel
theorem dL_keys_706 : decode cL_keys 706 = .ok (.iconst 2, 1) := by decide +kernel
theorem dL_keys_707 : decode cL_keys 707 = .ok (.invokevirtual 52, 3) := by decide +kernel
theorem dL_keys_710 : decode cL_keys 710 = .ok (.iconst 1, 1) := by decide +kernel
theorem dL_keys_711 : decode cL_keys 711 = .ok (.if_icmp .ne 122, 3) := by decide +kernel
theorem dL_keys_714 : decode cL_keys 714 = .ok (.aload_n 0, 1) := by decide +kernel
theorem dL_keys_715 : decode cL_keys 715 = .ok (.iconst 2, 1) := by decide +kernel
theorem dL_keys_716 : decode cL_keys 716 = .ok (.iconst 1, 1) := by decide +kernel
theorem dL_keys_717 : decode cL_keys 717 = .ok (.iconst 0, 1) := by decide +kernel
theorem dL_keys_718 : decode cL_keys 718 = .ok (.iconst 3, 1) := by decide +kernel
theorem dL_keys_719 : decode cL_keys 719 = .ok (.iconst 1, 1) := by decide +kernel
theorem dL_keys_720 : decode cL_keys 720 = .ok (.bipush 29, 2) := by decide +kernel
theorem dL_keys_722 : decode cL_keys 722 = .ok (.bipush 8, 2) := by decide +kernel
theorem dL_keys_724 : decode cL_keys 724 = .ok (.iconst 4, 1) := by decide +kernel
theorem dL_keys_725 : decode cL_keys 725 = .ok (.invokestatic 106, 3) := by decide +kernel
theorem dL_keys_728 : decode cL_keys 728 = .ok (.ifCond .eq 105, 3) := by decide +kernel
theorem dL_keys_731 : decode cL_keys 731 = .ok (.aload_n 0, 1) := by decide +kernel
theorem dL_keys_732 : decode cL_keys 732 = .ok (.iconst 3, 1) := by decide +kernel
theorem dL_keys_733 : decode cL_keys 733 = .ok (.iconst 1, 1) := by decide +kernel
theorem dL_keys_734 : decode cL_keys 734 = .ok (.iconst 0, 1) := by decide +kernel
theorem dL_keys_735 : decode cL_keys 735 = .ok (.invokevirtual 49, 3) := by decide +kernel
theorem dL_keys_738 : decode cL_keys 738 = .ok (.iconst 1, 1) := by decide +kernel
theorem dL_keys_739 : decode cL_keys 739 = .ok (.if_icmp .ne 94, 3) := by decide +kernel
theorem dL_keys_742 : decode cL_keys 742 = .ok (.aload_n 0, 1) := by decide +kernel
theorem dL_keys_743 : decode cL_keys 743 = .ok (.iconst 3, 1) := by decide +kernel
theorem dL_keys_744 : decode cL_keys 744 = .ok (.iconst 1, 1) := by decide +kernel
theorem dL_keys_745 : decode cL_keys 745 = .ok (.iconst 3, 1) := by decide +kernel
theorem dL_keys_746 : decode cL_keys 746 = .ok (.invokevirtual 49, 3) := by decide +kernel
theorem dL_keys_749 : decode cL_keys 749 = .ok (.iconst 1, 1) := by decide +kernel
theorem dL_keys_750 : decode cL_keys 750 = .ok (.if_icmp .ne 83, 3) := by decide +kernel
theorem dL_keys_753 : decode cL_keys 753 = .ok (.aload_n 0, 1) := by decide +kernel
theorem dL_keys_754 : decode cL_keys 754 = .ok (.iconst 0, 1) := by decide +kernel
theorem dL_keys_755 : decode cL_keys 755 = .ok (.iconst 1, 1) := by decide +kernel
theorem dL_keys_756 : decode cL_keys 756 = .ok (.invokevirtual 64, 3) := by decide +kernel
theorem dL_keys_759 : decode cL_keys 759 = .ok (.iconst 2, 1) := by decide +kernel
theorem dL_keys_760 : decode cL_keys 760 = .ok (.if_icmp .ne 73, 3) := by decide +kernel
theorem dL_keys_763 : decode cL_keys 763 = .ok (.aload_n 0, 1) := by decide +kernel
theorem dL_keys_764 : decode cL_keys 764 = .ok (.iconst 3, 1) := by decide +kernel
theorem dL_keys_765 : decode cL_keys 765 = .ok (.iconst 1, 1) := by decide +kernel
theorem dL_keys_766 : decode cL_keys 766 = .ok (.invokevirtual 25, 3) := by decide +kernel
theorem dL_keys_769 : decode cL_keys 769 = .ok (.iconst 3, 1) := by decide +kernel
theorem dL_keys_770 : decode cL_keys 770 = .ok (.if_icmp .ne 63, 3) := by decide +kernel
theorem dL_keys_773 : decode cL_keys 773 = .ok (.aload_n 0, 1) := by decide +kernel
theorem dL_keys_774 : decode cL_keys 774 = .ok (.iconst 3, 1) := by decide +kernel
theorem dL_keys_775 : decode cL_keys 775 = .ok (.iconst 1, 1) := by decide +kernel
theorem dL_keys_776 : decode cL_keys 776 = .ok (.iconst 3, 1) := by decide +kernel
theorem dL_keys_777 : decode cL_keys 777 = .ok (.invokevirtual 49, 3) := by decide +kernel
theorem dL_keys_780 : decode cL_keys 780 = .ok (.iconst 1, 1) := by decide +kernel
theorem dL_keys_781 : decode cL_keys 781 = .ok (.if_icmp .ne 52, 3) := by decide +kernel
theorem dL_keys_784 : decode cL_keys 784 = .ok (.aload_n 0, 1) := by decide +kernel
theorem dL_keys_785 : decode cL_keys 785 = .ok (.iconst 3, 1) := by decide +kernel
theorem dL_keys_786 : decode cL_keys 786 = .ok (.iconst 1, 1) := by decide +kernel
theorem dL_keys_787 : decode cL_keys 787 = .ok (.iconst 2, 1) := by decide +kernel
theorem dL_keys_788 : decode cL_keys 788 = .ok (.invokevirtual 49, 3) := by decide +kernel
theorem dL_keys_791 : decode cL_keys 791 = .ok (.ifCond .ne 42, 3) := by decide +kernel
theorem dL_keys_794 : decode cL_keys 794 = .ok (.aload_n 0, 1) := by decide +kernel
theorem dL_keys_795 : decode cL_keys 795 = .ok (.iconst 5, 1) := by decide +kernel
theorem dL_keys_796 : decode cL_keys 796 = .ok (.invokevirtual 55, 3) := by decide +kernel
theorem dL_keys_799 : decode cL_keys 799 = .ok (.iconst 1, 1) := by decide +kernel
theorem dL_keys_800 : decode cL_keys 800 = .ok (.if_icmp .ne 33, 3) := by decide +kernel
theorem dL_keys_803 : decode cL_keys 803 = .ok (.aload_n 0, 1) := by decide +kernel
theorem dL_keys_804 : decode cL_keys 804 = .ok (.iconst 2, 1) := by decide +kernel
theorem dL_keys_805 : decode cL_keys 805 = .ok (.invokevirtual 55, 3) := by decide +kernel
theorem dL_keys_808 : decode cL_keys 808 = .ok (.bipush 6, 2) := by decide +kernel
theorem dL_keys_810 : decode cL_keys 810 = .ok (.if_icmp .ne 23, 3) := by decide +kernel
theorem dL_keys_813 : decode cL_keys 813 = .ok (.aload_n 0, 1) := by decide +kernel
theorem dL_keys_814 : decode cL_keys 814 = .ok (.iconst 3, 1) := by decide +kernel
theorem dL_keys_815 : decode cL_keys 815 = .ok (.invokevirtual 55, 3) := by decide +kernel
theorem dL_keys_818 : decode cL_keys 818 = .ok (.iconst 5, 1) := by decide +kernel
theorem dL_keys_819 : decode cL_keys 819 = .ok (.if_icmp .ne 14, 3) := by decide +kernel
theorem dL_keys_822 : decode cL_keys 822 = .ok (.aload_n 0, 1) := by decide +kernel
theorem dL_keys_823 : decode cL_keys 823 = .ok (.bipush 7, 2) := by decide +kernel
theorem dL_keys_825 : decode cL_keys 825 = .ok (.invokevirtual 55, 3) := by decide +kernel
theorem dL_keys_828 : decode cL_keys 828 = .ok (.bipush 6, 2) := by decide +kernel
theorem dL_keys_830 : decode cL_keys 830 = .ok (.if_icmp .eq 5, 3) := by decide +kernel
theorem dL_keys_833 : decode cL_keys 833 = .ok (.iconst 0, 1) := by decide +kernel
theorem dL_keys_834 : decode cL_keys 834 = .ok (.ireturn, 1) := by decide +kernel
theorem dL_keys_835 : decode cL_keys 835 = .ok (.new 10, 3) := by decide +kernel
theorem dL_keys_838 : decode cL_keys 838 = .ok (.dup, 1) := by decide +kernel
theorem dL_keys_839 : decode cL_keys 839 = .ok (.invokespecial 101, 3) := by decide +kernel
theorem dL_keys_842 : decode cL_keys 842 = .ok (.astore_n 1, 1) := by decide +kernel
theorem dL_keys_843 : decode cL_keys 843 = .ok (.iconst 4, 1) := by decide +kernel
theorem dL_keys_844 : decode cL_keys 844 = .ok (.newarray .int, 2) := by decide +kernel
theorem dL_keys_846 : decode cL_keys 846 = .ok (.astore_n 2, 1) := by decide +kernel
theorem dL_keys_847 : decode cL_keys 847 = .ok (.aload_n 2, 1) := by decide +kernel
theorem dL_keys_848 : decode cL_keys 848 = .ok (.iconst 0, 1) := by decide +kernel
theorem dL_keys_849 : decode cL_keys 849 = .ok (.bipush 60, 2) := by decide +kernel
theorem dL_keys_851 : decode cL_keys 851 = .ok (.iastore, 1) := by decide +kernel
theorem dL_keys_852 : decode cL_keys 852 = .ok (.aload_n 2, 1) := by decide +kernel
theorem dL_keys_853 : decode cL_keys 853 = .ok (.iconst 1, 1) := by decide +kernel
theorem dL_keys_854 : decode cL_keys 854 = .ok (.iconst 5, 1) := by decide +kernel
theorem dL_keys_855 : decode cL_keys 855 = .ok (.iastore, 1) := by decide +kernel
theorem dL_keys_856 : decode cL_keys 856 = .ok (.aload_n 2, 1) := by decide +kernel
theorem dL_keys_857 : decode cL_keys 857 = .ok (.iconst 2, 1) := by decide +kernel
theorem dL_keys_858 : decode cL_keys 858 = .ok (.iconst 5, 1) := by decide +kernel
theorem dL_keys_859 : decode cL_keys 859 = .ok (.iastore, 1) := by decide +kernel
theorem dL_keys_860 : decode cL_keys 860 = .ok (.aload_n 2, 1) := by decide +kernel
theorem dL_keys_861 : decode cL_keys 861 = .ok (.iconst 3, 1) := by decide +kernel
theorem dL_keys_862 : decode cL_keys 862 = .ok (.bipush 40, 2) := by decide +kernel
theorem dL_keys_864 : decode cL_keys 864 = .ok (.iastore, 1) := by decide +kernel
theorem dL_keys_865 : decode cL_keys 865 = .ok (.iconst 0, 1) := by decide +kernel
theorem dL_keys_866 : decode cL_keys 866 = .ok (.istore_n 3, 1) := by decide +kernel
theorem dL_keys_867 : decode cL_keys 867 = .ok (.iload_n 3, 1) := by decide +kernel
theorem dL_keys_868 : decode cL_keys 868 = .ok (.iconst 4, 1) := by decide +kernel
theorem dL_keys_869 : decode cL_keys 869 = .ok (.if_icmp .ge 90, 3) := by decide +kernel
theorem dL_keys_872 : decode cL_keys 872 = .ok (.aload_n 1, 1) := by decide +kernel
theorem dL_keys_873 : decode cL_keys 873 = .ok (.iconst 0, 1) := by decide +kernel
theorem dL_keys_874 : decode cL_keys 874 = .ok (.iload_n 3, 1) := by decide +kernel
theorem dL_keys_875 : decode cL_keys 875 = .ok (.iconst 3, 1) := by decide +kernel
theorem dL_keys_876 : decode cL_keys 876 = .ok (.irem, 1) := by decide +kernel
theorem dL_keys_877 : decode cL_keys 877 = .ok (.iload_n 3, 1) := by decide +kernel
theorem dL_keys_878 : decode cL_keys 878 = .ok (.iconst 3, 1) := by decide +kernel
theorem dL_keys_879 : decode cL_keys 879 = .ok (.idiv, 1) := by decide +kernel
theorem dL_keys_880 : decode cL_keys 880 = .ok (.bipush 40, 2) := by decide +kernel
theorem dL_keys_882 : decode cL_keys 882 = .ok (.invokevirtual 15, 3) := by decide +kernel
theorem dL_keys_885 : decode cL_keys 885 = .ok (.ifCond .ne 66, 3) := by decide +kernel
theorem dL_keys_888 : decode cL_keys 888 = .ok (.aload_n 1, 1) := by decide +kernel
theorem dL_keys_889 : decode cL_keys 889 = .ok (.iconst 1, 1) := by decide +kernel
theorem dL_keys_890 : decode cL_keys 890 = .ok (.iload_n 3, 1) := by decide +kernel
theorem dL_keys_891 : decode cL_keys 891 = .ok (.iconst 3, 1) := by decide +kernel
theorem dL_keys_892 : decode cL_keys 892 = .ok (.irem, 1) := by decide +kernel
theorem dL_keys_893 : decode cL_keys 893 = .ok (.iload_n 3, 1) := by decide +kernel
theorem dL_keys_894 : decode cL_keys 894 = .ok (.iconst 3, 1) := by decide +kernel
theorem dL_keys_895 : decode cL_keys 895 = .ok (.idiv, 1) := by decide +kernel
theorem dL_keys_896 : decode cL_keys 896 = .ok (.bipush 60, 2) := by decide +kernel
theorem dL_keys_898 : decode cL_keys 898 = .ok (.invokevirtual 15, 3) := by decide +kernel
theorem dL_keys_901 : decode cL_keys 901 = .ok (.ifCond .ne 50, 3) := by decide +kernel
theorem dL_keys_904 : decode cL_keys 904 = .ok (.aload_n 1, 1) := by decide +kernel
theorem dL_keys_905 : decode cL_keys 905 = .ok (.iconst 2, 1) := by decide +kernel
theorem dL_keys_906 : decode cL_keys 906 = .ok (.iload_n 3, 1) := by decide +kernel
theorem dL_keys_907 : decode cL_keys 907 = .ok (.iconst 3, 1) := by decide +kernel
theorem dL_keys_908 : decode cL_keys 908 = .ok (.irem, 1) := by decide +kernel
theorem dL_keys_909 : decode cL_keys 909 = .ok (.iload_n 3, 1) := by decide +kernel
theorem dL_keys_910 : decode cL_keys 910 = .ok (.iconst 3, 1) := by decide +kernel
theorem dL_keys_911 : decode cL_keys 911 = .ok (.idiv, 1) := by decide +kernel
theorem dL_keys_912 : decode cL_keys 912 = .ok (.iconst 5, 1) := by decide +kernel
theorem dL_keys_913 : decode cL_keys 913 = .ok (.invokevirtual 15, 3) := by decide +kernel
theorem dL_keys_916 : decode cL_keys 916 = .ok (.ifCond .ne 35, 3) := by decide +kernel
theorem dL_keys_919 : decode cL_keys 919 = .ok (.aload_n 1, 1) := by decide +kernel
theorem dL_keys_920 : decode cL_keys 920 = .ok (.iconst 4, 1) := by decide +kernel
theorem dL_keys_921 : decode cL_keys 921 = .ok (.iload_n 3, 1) := by decide +kernel
theorem dL_keys_922 : decode cL_keys 922 = .ok (.iconst 3, 1) := by decide +kernel
theorem dL_keys_923 : decode cL_keys 923 = .ok (.irem, 1) := by decide +kernel
theorem dL_keys_924 : decode cL_keys 924 = .ok (.iload_n 3, 1) := by decide +kernel
theorem dL_keys_925 : decode cL_keys 925 = .ok (.iconst 3, 1) := by decide +kernel
theorem dL_keys_926 : decode cL_keys 926 = .ok (.idiv, 1) := by decide +kernel
theorem dL_keys_927 : decode cL_keys 927 = .ok (.iload_n 3, 1) := by decide +kernel
theorem dL_keys_928 : decode cL_keys 928 = .ok (.invokevirtual 22, 3) := by decide +kernel
theorem dL_keys_931 : decode cL_keys 931 = .ok (.aload_n 2, 1) := by decide +kernel
theorem dL_keys_932 : decode cL_keys 932 = .ok (.iload_n 3, 1) := by decide +kernel
theorem dL_keys_933 : decode cL_keys 933 = .ok (.iaload, 1) := by decide +kernel
theorem dL_keys_934 : decode cL_keys 934 = .ok (.if_icmp .ne 17, 3) := by decide +kernel
theorem dL_keys_937 : decode cL_keys 937 = .ok (.aload_n 1, 1) := by decide +kernel
theorem dL_keys_938 : decode cL_keys 938 = .ok (.iload_n 3, 1) := by decide +kernel
theorem dL_keys_939 : decode cL_keys 939 = .ok (.iconst 3, 1) := by decide +kernel
theorem dL_keys_940 : decode cL_keys 940 = .ok (.irem, 1) := by decide +kernel
theorem dL_keys_941 : decode cL_keys 941 = .ok (.iload_n 3, 1) := by decide +kernel
theorem dL_keys_942 : decode cL_keys 942 = .ok (.iconst 3, 1) := by decide +kernel
theorem dL_keys_943 : decode cL_keys 943 = .ok (.idiv, 1) := by decide +kernel
theorem dL_keys_944 : decode cL_keys 944 = .ok (.invokevirtual 52, 3) := by decide +kernel
theorem dL_keys_947 : decode cL_keys 947 = .ok (.iconst 1, 1) := by decide +kernel
theorem dL_keys_948 : decode cL_keys 948 = .ok (.if_icmp .eq 5, 3) := by decide +kernel
theorem dL_keys_951 : decode cL_keys 951 = .ok (.iconst 0, 1) := by decide +kernel
theorem dL_keys_952 : decode cL_keys 952 = .ok (.ireturn, 1) := by decide +kernel
theorem dL_keys_953 : decode cL_keys 953 = .ok (.iinc 3 1, 3) := by decide +kernel
theorem dL_keys_956 : decode cL_keys 956 = .ok (.goto (-89), 3) := by decide +kernel
theorem dL_keys_959 : decode cL_keys 959 = .ok (.new 10, 3) := by decide +kernel
theorem dL_keys_962 : decode cL_keys 962 = .ok (.dup, 1) := by decide +kernel
theorem dL_keys_963 : decode cL_keys 963 = .ok (.invokespecial 101, 3) := by decide +kernel
theorem dL_keys_966 : decode cL_keys 966 = .ok (.astore_n 3, 1) := by decide +kernel
theorem dL_keys_967 : decode cL_keys 967 = .ok (.iconst 0, 1) := by decide +kernel
theorem dL_keys_968 : decode cL_keys 968 = .ok (.istore 4, 2) := by decide +kernel
theorem dL_keys_970 : decode cL_keys 970 = .ok (.iload 4, 2) := by decide +kernel
theorem dL_keys_972 : decode cL_keys 972 = .ok (.iconst 4, 1) := by decide +kernel
theorem dL_keys_973 : decode cL_keys 973 = .ok (.if_icmp .ge 43, 3) := by decide +kernel
theorem dL_keys_976 : decode cL_keys 976 = .ok (.aload_n 3, 1) := by decide +kernel
theorem dL_keys_977 : decode cL_keys 977 = .ok (.iload 4, 2) := by decide +kernel
theorem dL_keys_979 : decode cL_keys 979 = .ok (.iconst 0, 1) := by decide +kernel
theorem dL_keys_980 : decode cL_keys 980 = .ok (.iconst 0, 1) := by decide +kernel
theorem dL_keys_981 : decode cL_keys 981 = .ok (.iload 4, 2) := by decide +kernel
theorem dL_keys_983 : decode cL_keys 983 = .ok (.invokevirtual 15, 3) := by decide +kernel
theorem dL_keys_986 : decode cL_keys 986 = .ok (.ifCond .ne 22, 3) := by decide +kernel
theorem dL_keys_989 : decode cL_keys 989 = .ok (.iload 4, 2) := by decide +kernel
theorem dL_keys_991 : decode cL_keys 991 = .ok (.iconst 3, 1) := by decide +kernel
theorem dL_keys_992 : decode cL_keys 992 = .ok (.if_icmp .ge 18, 3) := by decide +kernel
theorem dL_keys_995 : decode cL_keys 995 = .ok (.aload_n 3, 1) := by decide +kernel
theorem dL_keys_996 : decode cL_keys 996 = .ok (.iload 4, 2) := by decide +kernel
theorem dL_keys_998 : decode cL_keys 998 = .ok (.iconst 2, 1) := by decide +kernel
theorem dL_keys_999 : decode cL_keys 999 = .ok (.iconst 1, 1) := by decide +kernel
theorem dL_keys_1000 : decode cL_keys 1000 = .ok (.iload 4, 2) := by decide +kernel
theorem dL_keys_1002 : decode cL_keys 1002 = .ok (.invokevirtual 15, 3) := by decide +kernel
theorem dL_keys_1005 : decode cL_keys 1005 = .ok (.ifCond .eq 5, 3) := by decide +kernel
theorem dL_keys_1008 : decode cL_keys 1008 = .ok (.iconst 0, 1) := by decide +kernel
theorem dL_keys_1009 : decode cL_keys 1009 = .ok (.ireturn, 1) := by decide +kernel
theorem dL_keys_1010 : decode cL_keys 1010 = .ok (.iinc 4 1, 3) := by decide +kernel
theorem dL_keys_1013 : decode cL_keys 1013 = .ok (.goto (-43), 3) := by decide +kernel
theorem dL_keys_1016 : decode cL_keys 1016 = .ok (.aload_n 3, 1) := by decide +kernel
theorem dL_keys_1017 : decode cL_keys 1017 = .ok (.iconst 4, 1) := by decide +kernel
theorem dL_keys_1018 : decode cL_keys 1018 = .ok (.iconst 0, 1) := by decide +kernel
theorem dL_keys_1019 : decode cL_keys 1019 = .ok (.iconst 0, 1) := by decide +kernel
theorem dL_keys_1020 : decode cL_keys 1020 = .ok (.iconst 1, 1) := by decide +kernel
theorem dL_keys_1021 : decode cL_keys 1021 = .ok (.invokevirtual 58, 3) := by decide +kernel
theorem dL_keys_1024 : decode cL_keys 1024 = .ok (.iconst 5, 1) := by decide +kernel
theorem dL_keys_1025 : decode cL_keys 1025 = .ok (.if_icmp .ne 121, 3) := by decide +kernel
theorem dL_keys_1028 : decode cL_keys 1028 = .ok (.aload_n 3, 1) := by decide +kernel
theorem dL_keys_1029 : decode cL_keys 1029 = .ok (.iconst 1, 1) := by decide +kernel
theorem dL_keys_1030 : decode cL_keys 1030 = .ok (.iconst 4, 1) := by decide +kernel
theorem dL_keys_1031 : decode cL_keys 1031 = .ok (.iconst 0, 1) := by decide +kernel
theorem dL_keys_1032 : decode cL_keys 1032 = .ok (.iconst 0, 1) := by decide +kernel
theorem dL_keys_1033 : decode cL_keys 1033 = .ok (.bipush 7, 2) := by decide +kernel
theorem dL_keys_1035 : decode cL_keys 1035 = .ok (.invokestatic 86, 3) := by decide +kernel
theorem dL_keys_1038 : decode cL_keys 1038 = .ok (.bipush (-13), 2) := by decide +kernel
theorem dL_keys_1040 : decode cL_keys 1040 = .ok (.if_icmp .ne 106, 3) := by decide +kernel
theorem dL_keys_1043 : decode cL_keys 1043 = .ok (.aload_n 3, 1) := by decide +kernel
theorem dL_keys_1044 : decode cL_keys 1044 = .ok (.iconst 3, 1) := by decide +kernel
theorem dL_keys_1045 : decode cL_keys 1045 = .ok (.iconst 2, 1) := by decide +kernel
theorem dL_keys_1046 : decode cL_keys 1046 = .ok (.iconst 2, 1) := by decide +kernel
theorem dL_keys_1047 : decode cL_keys 1047 = .ok (.iconst 3, 1) := by decide +kernel
theorem dL_keys_1048 : decode cL_keys 1048 = .ok (.invokevirtual 15, 3) := by decide +kernel
theorem dL_keys_1051 : decode cL_keys 1051 = .ok (.ifCond .ne 95, 3) := by decide +kernel
theorem dL_keys_1054 : decode cL_keys 1054 = .ok (.aload_n 3, 1) := by decide +kernel
theorem dL_keys_1055 : decode cL_keys 1055 = .ok (.iconst 4, 1) := by decide +kernel
theorem dL_keys_1056 : decode cL_keys 1056 = .ok (.iconst 2, 1) := by decide +kernel
theorem dL_keys_1057 : decode cL_keys 1057 = .ok (.iconst 2, 1) := by decide +kernel
theorem dL_keys_1058 : decode cL_keys 1058 = .ok (.iconst 4, 1) := by decide +kernel
theorem dL_keys_1059 : decode cL_keys 1059 = .ok (.invokevirtual 15, 3) := by decide +kernel
theorem dL_keys_1062 : decode cL_keys 1062 = .ok (.ifCond .ne 84, 3) := by decide +kernel
theorem dL_keys_1065 : decode cL_keys 1065 = .ok (.aload_n 3, 1) := by decide +kernel
theorem dL_keys_1066 : decode cL_keys 1066 = .ok (.iconst 1, 1) := by decide +kernel
theorem dL_keys_1067 : decode cL_keys 1067 = .ok (.iconst 2, 1) := by decide +kernel
theorem dL_keys_1068 : decode cL_keys 1068 = .ok (.iconst 2, 1) := by decide +kernel
theorem dL_keys_1069 : decode cL_keys 1069 = .ok (.iconst 2, 1) := by decide +kernel
theorem dL_keys_1070 : decode cL_keys 1070 = .ok (.invokevirtual 61, 3) := by decide +kernel
theorem dL_keys_1073 : decode cL_keys 1073 = .ok (.iconst 5, 1) := by decide +kernel
theorem dL_keys_1074 : decode cL_keys 1074 = .ok (.if_icmp .ne 72, 3) := by decide +kernel
theorem dL_keys_1077 : decode cL_keys 1077 = .ok (.aload_n 3, 1) := by decide +kernel
theorem dL_keys_1078 : decode cL_keys 1078 = .ok (.iconst 2, 1) := by decide +kernel
theorem dL_keys_1079 : decode cL_keys 1079 = .ok (.iconst 1, 1) := by decide +kernel
theorem dL_keys_1080 : decode cL_keys 1080 = .ok (.iconst 2, 1) := by decide +kernel
theorem dL_keys_1081 : decode cL_keys 1081 = .ok (.iconst 2, 1) := by decide +kernel
theorem dL_keys_1082 : decode cL_keys 1082 = .ok (.iconst 0, 1) := by decide +kernel
theorem dL_keys_1083 : decode cL_keys 1083 = .ok (.invokestatic 86, 3) := by decide +kernel
theorem dL_keys_1086 : decode cL_keys 1086 = .ok (.bipush (-13), 2) := by decide +kernel
theorem dL_keys_1088 : decode cL_keys 1088 = .ok (.if_icmp .ne 58, 3) := by decide +kernel
theorem dL_keys_1091 : decode cL_keys 1091 = .ok (.aload_n 3, 1) := by decide +kernel
theorem dL_keys_1092 : decode cL_keys 1092 = .ok (.bipush 17, 2) := by decide +kernel
theorem dL_keys_1094 : decode cL_keys 1094 = .ok (.iconst 0, 1) := by decide +kernel
theorem dL_keys_1095 : decode cL_keys 1095 = .ok (.iconst 0, 1) := by decide +kernel
theorem dL_keys_1096 : decode cL_keys 1096 = .ok (.iconst 0, 1) := by decide +kernel
theorem dL_keys_1097 : decode cL_keys 1097 = .ok (.iconst 0, 1) := by decide +kernel
theorem dL_keys_1098 : decode cL_keys 1098 = .ok (.invokestatic 86, 3) := by decide +kernel
theorem dL_keys_1101 : decode cL_keys 1101 = .ok (.bipush (-13), 2) := by decide +kernel
theorem dL_keys_1103 : decode cL_keys 1103 = .ok (.if_icmp .ne 43, 3) := by decide +kernel
theorem dL_keys_1106 : decode cL_keys 1106 = .ok (.aload_n 3, 1) := by decide +kernel
theorem dL_keys_1107 : decode cL_keys 1107 = .ok (.bipush 7, 2) := by decide +kernel
theorem dL_keys_1109 : decode cL_keys 1109 = .ok (.invokevirtual 55, 3) := by decide +kernel
theorem dL_keys_1112 : decode cL_keys 1112 = .ok (.bipush 6, 2) := by decide +kernel
theorem dL_keys_1114 : decode cL_keys 1114 = .ok (.if_icmp .ne 32, 3) := by decide +kernel
theorem dL_keys_1117 : decode cL_keys 1117 = .ok (.aload_n 3, 1) := by decide +kernel
theorem dL_keys_1118 : decode cL_keys 1118 = .ok (.iconst 1, 1) := by decide +kernel
theorem dL_keys_1119 : decode cL_keys 1119 = .ok (.invokevirtual 55, 3) := by decide +kernel
theorem dL_keys_1122 : decode cL_keys 1122 = .ok (.iconst 4, 1) := by decide +kernel
theorem dL_keys_1123 : decode cL_keys 1123 = .ok (.if_icmp .ne 23, 3) := by decide +kernel
theorem dL_keys_1126 : decode cL_keys 1126 = .ok (.aload_n 3, 1) := by decide +kernel
theorem dL_keys_1127 : decode cL_keys 1127 = .ok (.iconst 1, 1) := by decide +kernel
theorem dL_keys_1128 : decode cL_keys 1128 = .ok (.iconst 0, 1) := by decide +kernel
theorem dL_keys_1129 : decode cL_keys 1129 = .ok (.iconst 0, 1) := by decide +kernel
theorem dL_keys_1130 : decode cL_keys 1130 = .ok (.invokevirtual 19, 3) := by decide +kernel
theorem dL_keys_1133 : decode cL_keys 1133 = .ok (.ifCond .ne 13, 3) := by decide +kernel
theorem dL_keys_1136 : decode cL_keys 1136 = .ok (.aload_n 3, 1) := by decide +kernel
theorem dL_keys_1137 : decode cL_keys 1137 = .ok (.iconst 0, 1) := by decide +kernel
theorem dL_keys_1138 : decode cL_keys 1138 = .ok (.iconst 1, 1) := by decide +kernel
theorem dL_keys_1139 : decode cL_keys 1139 = .ok (.invokevirtual 52, 3) := by decide +kernel
theorem dL_keys_1142 : decode cL_keys 1142 = .ok (.iconst 4, 1) := by decide +kernel
theorem dL_keys_1143 : decode cL_keys 1143 = .ok (.if_icmp .eq 5, 3) := by decide +kernel
theorem dL_keys_1146 : decode cL_keys 1146 = .ok (.iconst 0, 1) := by decide +kernel
theorem dL_keys_1147 : decode cL_keys 1147 = .ok (.ireturn, 1) := by decide +kernel
theorem dL_keys_1148 : decode cL_keys 1148 = .ok (.aload_n 1, 1) := by decide +kernel
theorem dL_keys_1149 : decode cL_keys 1149 = .ok (.iconst 0, 1) := by decide +kernel
theorem dL_keys_1150 : decode cL_keys 1150 = .ok (.invokevirtual 55, 3) := by decide +kernel
theorem dL_keys_1153 : decode cL_keys 1153 = .ok (.iconst 4, 1) := by decide +kernel
theorem dL_keys_1154 : decode cL_keys 1154 = .ok (.if_icmp .ne 32, 3) := by decide +kernel
theorem dL_keys_1157 : decode cL_keys 1157 = .ok (.aload_n 1, 1) := by decide +kernel
theorem dL_keys_1158 : decode cL_keys 1158 = .ok (.iconst 1, 1) := by decide +kernel
theorem dL_keys_1159 : decode cL_keys 1159 = .ok (.invokevirtual 55, 3) := by decide +kernel
theorem dL_keys_1162 : decode cL_keys 1162 = .ok (.iconst 1, 1) := by decide +kernel
theorem dL_keys_1163 : decode cL_keys 1163 = .ok (.if_icmp .ne 23, 3) := by decide +kernel
theorem dL_keys_1166 : decode cL_keys 1166 = .ok (.aload_n 1, 1) := by decide +kernel
theorem dL_keys_1167 : decode cL_keys 1167 = .ok (.iconst 5, 1) := by decide +kernel
theorem dL_keys_1168 : decode cL_keys 1168 = .ok (.invokevirtual 55, 3) := by decide +kernel
theorem dL_keys_1171 : decode cL_keys 1171 = .ok (.iconst 4, 1) := by decide +kernel
theorem dL_keys_1172 : decode cL_keys 1172 = .ok (.if_icmp .ne 14, 3) := by decide +kernel
theorem dL_keys_1175 : decode cL_keys 1175 = .ok (.aload_n 1, 1) := by decide +kernel
theorem dL_keys_1176 : decode cL_keys 1176 = .ok (.invokestatic 112, 3) := by decide +kernel
theorem dL_keys_1179 : decode cL_keys 1179 = .ok (.ifCond .eq 7, 3) := by decide +kernel
theorem dL_keys_1182 : decode cL_keys 1182 = .ok (.iconst 1, 1) := by decide +kernel
theorem dL_keys_1183 : decode cL_keys 1183 = .ok (.goto 4, 3) := by decide +kernel
theorem dL_keys_1186 : decode cL_keys 1186 = .ok (.iconst 0, 1) := by decide +kernel
theorem dL_keys_1187 : decode cL_keys 1187 = .ok (.ireturn, 1) := by decide +kernel
theorem dL_types_0 : decode cL_types 0 = .ok (.iconst 1, 1) := by decide +kernel
theorem dL_types_1 : decode cL_types 1 = .ok (.istore_n 3, 1) := by decide +kernel
theorem dL_types_2 : decode cL_types 2 = .ok (.bipush 56, 2) := by decide +kernel
theorem dL_types_4 : decode cL_types 4 = .ok (.istore 4, 2) := by decide +kernel
theorem dL_types_6 : decode cL_types 6 = .ok (.iload 4, 2) := by decide +kernel
theorem dL_types_8 : decode cL_types 8 = .ok (.ifCond .lt 44, 3) := by decide +kernel
theorem dL_types_11 : decode cL_types 11 = .ok (.lload_n 1, 1) := by decide +kernel
theorem dL_types_12 : decode cL_types 12 = .ok (.iload 4, 2) := by decide +kernel
theorem dL_types_14 : decode cL_types 14 = .ok (.lshr, 1) := by decide +kernel
theorem dL_types_15 : decode cL_types 15 = .ok (.ldc2_w 116, 3) := by decide +kernel
theorem dL_types_18 : decode cL_types 18 = .ok (.land, 1) := by decide +kernel
theorem dL_types_19 : decode cL_types 19 = .ok (.l2i, 1) := by decide +kernel
theorem dL_types_20 : decode cL_types 20 = .ok (.istore 5, 2) := by decide +kernel
theorem dL_types_22 : decode cL_types 22 = .ok (.iload_n 3, 1) := by decide +kernel
theorem dL_types_23 : decode cL_types 23 = .ok (.ifCond .eq 21, 3) := by decide +kernel
theorem dL_types_26 : decode cL_types 26 = .ok (.iload 5, 2) := by decide +kernel
theorem dL_types_28 : decode cL_types 28 = .ok (.ifCond .eq 12, 3) := by decide +kernel
theorem dL_types_31 : decode cL_types 31 = .ok (.aload_n 0, 1) := by decide +kernel
theorem dL_types_32 : decode cL_types 32 = .ok (.iload 5, 2) := by decide +kernel
theorem dL_types_34 : decode cL_types 34 = .ok (.invokevirtual 32, 3) := by decide +kernel
theorem dL_types_37 : decode cL_types 37 = .ok (.ifCond .le 7, 3) := by decide +kernel
theorem dL_types_40 : decode cL_types 40 = .ok (.iconst 1, 1) := by decide +kernel
theorem dL_types_41 : decode cL_types 41 = .ok (.goto 4, 3) := by decide +kernel
theorem dL_types_44 : decode cL_types 44 = .ok (.iconst 0, 1) := by decide +kernel
theorem dL_types_45 : decode cL_types 45 = .ok (.istore_n 3, 1) := by decide +kernel
theorem dL_types_46 : decode cL_types 46 = .ok (.iinc 4 (-8), 3) := by decide +kernel
theorem dL_types_49 : decode cL_types 49 = .ok (.goto (-43), 3) := by decide +kernel
theorem dL_types_52 : decode cL_types 52 = .ok (.iload_n 3, 1) := by decide +kernel
theorem dL_types_53 : decode cL_types 53 = .ok (.ireturn, 1) := by decide +kernel
theorem dL_errorOf_0 : decode cL_errorOf 0 = .ok (.new 10, 3) := by decide +kernel
theorem dL_errorOf_3 : decode cL_errorOf 3 = .ok (.dup, 1) := by decide +kernel
theorem dL_errorOf_4 : decode cL_errorOf 4 = .ok (.invokespecial 101, 3) := by decide +kernel
theorem dL_errorOf_7 : decode cL_errorOf 7 = .ok (.astore 4, 2) := by decide +kernel
theorem dL_errorOf_9 : decode cL_errorOf 9 = .ok (.aload 4, 2) := by decide +kernel
theorem dL_errorOf_11 : decode cL_errorOf 11 = .ok (.lload_n 0, 1) := by decide +kernel
theorem dL_errorOf_12 : decode cL_errorOf 12 = .ok (.invokestatic 118, 3) := by decide +kernel
theorem dL_errorOf_15 : decode cL_errorOf 15 = .ok (.ifCond .eq 20, 3) := by decide +kernel
theorem dL_errorOf_18 : decode cL_errorOf 18 = .ok (.aload 4, 2) := by decide +kernel
theorem dL_errorOf_20 : decode cL_errorOf 20 = .ok (.lload_n 2, 1) := by decide +kernel
theorem dL_errorOf_21 : decode cL_errorOf 21 = .ok (.invokestatic 118, 3) := by decide +kernel
theorem dL_errorOf_24 : decode cL_errorOf 24 = .ok (.ifCond .eq 11, 3) := by decide +kernel
theorem dL_errorOf_27 : decode cL_errorOf 27 = .ok (.aload 4, 2) := by decide +kernel
theorem dL_errorOf_29 : decode cL_errorOf 29 = .ok (.invokevirtual 122, 3) := by decide +kernel
theorem dL_errorOf_32 : decode cL_errorOf 32 = .ok (.goto 5, 3) := by decide +kernel
theorem dL_errorOf_35 : decode cL_errorOf 35 = .ok (.bipush (-99), 2) := by decide +kernel
theorem dL_errorOf_37 : decode cL_errorOf 37 = .ok (.ireturn, 1) := by decide +kernel
theorem dL_texts_0 : decode cL_texts 0 = .ok (.lconst 0, 1) := by decide +kernel
theorem dL_texts_1 : decode cL_texts 1 = .ok (.lconst 0, 1) := by decide +kernel
theorem dL_texts_2 : decode cL_texts 2 = .ok (.invokestatic 125, 3) := by decide +kernel
theorem dL_texts_5 : decode cL_texts 5 = .ok (.ifCond .ne 93, 3) := by decide +kernel
theorem dL_texts_8 : decode cL_texts 8 = .ok (.ldc2_w 129, 3) := by decide +kernel
theorem dL_texts_11 : decode cL_texts 11 = .ok (.lconst 0, 1) := by decide +kernel
theorem dL_texts_12 : decode cL_texts 12 = .ok (.invokestatic 125, 3) := by decide +kernel
theorem dL_texts_15 : decode cL_texts 15 = .ok (.iconst 1, 1) := by decide +kernel
theorem dL_texts_16 : decode cL_texts 16 = .ok (.if_icmp .ne 82, 3) := by decide +kernel
theorem dL_texts_19 : decode cL_texts 19 = .ok (.ldc2_w 131, 3) := by decide +kernel
theorem dL_texts_22 : decode cL_texts 22 = .ok (.lconst 0, 1) := by decide +kernel
theorem dL_texts_23 : decode cL_texts 23 = .ok (.invokestatic 125, 3) := by decide +kernel
theorem dL_texts_26 : decode cL_texts 26 = .ok (.iconst 1, 1) := by decide +kernel
theorem dL_texts_27 : decode cL_texts 27 = .ok (.if_icmp .ne 71, 3) := by decide +kernel
theorem dL_texts_30 : decode cL_texts 30 = .ok (.ldc2_w 133, 3) := by decide +kernel
theorem dL_texts_33 : decode cL_texts 33 = .ok (.lconst 0, 1) := by decide +kernel
theorem dL_texts_34 : decode cL_texts 34 = .ok (.invokestatic 125, 3) := by decide +kernel
theorem dL_texts_37 : decode cL_texts 37 = .ok (.iconst 2, 1) := by decide +kernel
theorem dL_texts_38 : decode cL_texts 38 = .ok (.if_icmp .ne 60, 3) := by decide +kernel
theorem dL_texts_41 : decode cL_texts 41 = .ok (.ldc2_w 135, 3) := by decide +kernel
theorem dL_texts_44 : decode cL_texts 44 = .ok (.lconst 0, 1) := by decide +kernel
theorem dL_texts_45 : decode cL_texts 45 = .ok (.invokestatic 125, 3) := by decide +kernel
theorem dL_texts_48 : decode cL_texts 48 = .ok (.iconst 3, 1) := by decide +kernel
theorem dL_texts_49 : decode cL_texts 49 = .ok (.if_icmp .ne 49, 3) := by decide +kernel
theorem dL_texts_52 : decode cL_texts 52 = .ok (.ldc2_w 137, 3) := by decide +kernel
theorem dL_texts_55 : decode cL_texts 55 = .ok (.lconst 0, 1) := by decide +kernel
theorem dL_texts_56 : decode cL_texts 56 = .ok (.invokestatic 125, 3) := by decide +kernel
theorem dL_texts_59 : decode cL_texts 59 = .ok (.iconst 3, 1) := by decide +kernel
theorem dL_texts_60 : decode cL_texts 60 = .ok (.if_icmp .ne 38, 3) := by decide +kernel
theorem dL_texts_63 : decode cL_texts 63 = .ok (.ldc2_w 139, 3) := by decide +kernel
theorem dL_texts_66 : decode cL_texts 66 = .ok (.lconst 0, 1) := by decide +kernel
theorem dL_texts_67 : decode cL_texts 67 = .ok (.invokestatic 125, 3) := by decide +kernel
theorem dL_texts_70 : decode cL_texts 70 = .ok (.iconst 5, 1) := by decide +kernel
theorem dL_texts_71 : decode cL_texts 71 = .ok (.if_icmp .ne 27, 3) := by decide +kernel
theorem dL_texts_74 : decode cL_texts 74 = .ok (.ldc2_w 141, 3) := by decide +kernel
theorem dL_texts_77 : decode cL_texts 77 = .ok (.lconst 0, 1) := by decide +kernel
theorem dL_texts_78 : decode cL_texts 78 = .ok (.invokestatic 125, 3) := by decide +kernel
theorem dL_texts_81 : decode cL_texts 81 = .ok (.bipush 6, 2) := by decide +kernel
theorem dL_texts_83 : decode cL_texts 83 = .ok (.if_icmp .ne 15, 3) := by decide +kernel
theorem dL_texts_86 : decode cL_texts 86 = .ok (.ldc2_w 143, 3) := by decide +kernel
theorem dL_texts_89 : decode cL_texts 89 = .ok (.lconst 0, 1) := by decide +kernel
theorem dL_texts_90 : decode cL_texts 90 = .ok (.invokestatic 125, 3) := by decide +kernel
theorem dL_texts_93 : decode cL_texts 93 = .ok (.bipush 6, 2) := by decide +kernel
theorem dL_texts_95 : decode cL_texts 95 = .ok (.if_icmp .eq 5, 3) := by decide +kernel
theorem dL_texts_98 : decode cL_texts 98 = .ok (.iconst 0, 1) := by decide +kernel
theorem dL_texts_99 : decode cL_texts 99 = .ok (.ireturn, 1) := by decide +kernel
theorem dL_texts_100 : decode cL_texts 100 = .ok (.ldc2_w 145, 3) := by decide +kernel
theorem dL_texts_103 : decode cL_texts 103 = .ok (.lconst 0, 1) := by decide +kernel
theorem dL_texts_104 : decode cL_texts 104 = .ok (.invokestatic 125, 3) := by decide +kernel
theorem dL_texts_107 : decode cL_texts 107 = .ok (.bipush 7, 2) := by decide +kernel
theorem dL_texts_109 : decode cL_texts 109 = .ok (.if_icmp .ne 105, 3) := by decide +kernel
theorem dL_texts_112 : decode cL_texts 112 = .ok (.ldc2_w 147, 3) := by decide +kernel
theorem dL_texts_115 : decode cL_texts 115 = .ok (.ldc2_w 149, 3) := by decide +kernel
theorem dL_texts_118 : decode cL_texts 118 = .ok (.invokestatic 125, 3) := by decide +kernel
theorem dL_texts_121 : decode cL_texts 121 = .ok (.bipush 8, 2) := by decide +kernel
theorem dL_texts_123 : decode cL_texts 123 = .ok (.if_icmp .ne 91, 3) := by decide +kernel
theorem dL_texts_126 : decode cL_texts 126 = .ok (.ldc2_w 151, 3) := by decide +kernel
theorem dL_texts_129 : decode cL_texts 129 = .ok (.ldc2_w 153, 3) := by decide +kernel
theorem dL_texts_132 : decode cL_texts 132 = .ok (.invokestatic 125, 3) := by decide +kernel
theorem dL_texts_135 : decode cL_texts 135 = .ok (.bipush 9, 2) := by decide +kernel
theorem dL_texts_137 : decode cL_texts 137 = .ok (.if_icmp .ne 77, 3) := by decide +kernel
theorem dL_texts_140 : decode cL_texts 140 = .ok (.ldc2_w 155, 3) := by decide +kernel
theorem dL_texts_143 : decode cL_texts 143 = .ok (.lconst 0, 1) := by decide +kernel
theorem dL_texts_144 : decode cL_texts 144 = .ok (.invokestatic 125, 3) := by decide +kernel
theorem dL_texts_147 : decode cL_texts 147 = .ok (.bipush 6, 2) := by decide +kernel
theorem dL_texts_149 : decode cL_texts 149 = .ok (.if_icmp .ne 65, 3) := by decide +kernel
theorem dL_texts_152 : decode cL_texts 152 = .ok (.ldc2_w 157, 3) := by decide +kernel
theorem dL_texts_155 : decode cL_texts 155 = .ok (.lconst 0, 1) := by decide +kernel
theorem dL_texts_156 : decode cL_texts 156 = .ok (.invokestatic 125, 3) := by decide +kernel
theorem dL_texts_159 : decode cL_texts 159 = .ok (.bipush 7, 2) := by decide +kernel
theorem dL_texts_161 : decode cL_texts 161 = .ok (.if_icmp .ne 53, 3) := by decide +kernel
theorem dL_texts_164 : decode cL_texts 164 = .ok (.ldc2_w 159, 3) := by decide +kernel
theorem dL_texts_167 : decode cL_texts 167 = .ok (.lconst 0, 1) := by decide +kernel
theorem dL_texts_168 : decode cL_texts 168 = .ok (.invokestatic 125, 3) := by decide +kernel
theorem dL_texts_171 : decode cL_texts 171 = .ok (.ifCond .ne 43, 3) := by decide +kernel
theorem dL_texts_174 : decode cL_texts 174 = .ok (.ldc2_w 161, 3) := by decide +kernel
theorem dL_texts_177 : decode cL_texts 177 = .ok (.lconst 0, 1) := by decide +kernel
theorem dL_texts_178 : decode cL_texts 178 = .ok (.invokestatic 125, 3) := by decide +kernel
theorem dL_texts_181 : decode cL_texts 181 = .ok (.bipush 6, 2) := by decide +kernel
theorem dL_texts_183 : decode cL_texts 183 = .ok (.if_icmp .ne 31, 3) := by decide +kernel
theorem dL_texts_186 : decode cL_texts 186 = .ok (.ldc2_w 163, 3) := by decide +kernel
theorem dL_texts_189 : decode cL_texts 189 = .ok (.ldc2_w 165, 3) := by decide +kernel
theorem dL_texts_192 : decode cL_texts 192 = .ok (.invokestatic 125, 3) := by decide +kernel
theorem dL_texts_195 : decode cL_texts 195 = .ok (.bipush 9, 2) := by decide +kernel
theorem dL_texts_197 : decode cL_texts 197 = .ok (.if_icmp .ne 17, 3) := by decide +kernel
theorem dL_texts_200 : decode cL_texts 200 = .ok (.ldc2_w 167, 3) := by decide +kernel
theorem dL_texts_203 : decode cL_texts 203 = .ok (.ldc2_w 169, 3) := by decide +kernel
theorem dL_texts_206 : decode cL_texts 206 = .ok (.invokestatic 125, 3) := by decide +kernel
theorem dL_texts_209 : decode cL_texts 209 = .ok (.bipush 9, 2) := by decide +kernel
theorem dL_texts_211 : decode cL_texts 211 = .ok (.if_icmp .eq 5, 3) := by decide +kernel
theorem dL_texts_214 : decode cL_texts 214 = .ok (.iconst 0, 1) := by decide +kernel
theorem dL_texts_215 : decode cL_texts 215 = .ok (.ireturn, 1) := by decide +kernel
theorem dL_texts_216 : decode cL_texts 216 = .ok (.new 10, 3) := by decide +kernel
theorem dL_texts_219 : decode cL_texts 219 = .ok (.dup, 1) := by decide +kernel
theorem dL_texts_220 : decode cL_texts 220 = .ok (.invokespecial 101, 3) := by decide +kernel
theorem dL_texts_223 : decode cL_texts 223 = .ok (.astore_n 0, 1) := by decide +kernel
theorem dL_texts_224 : decode cL_texts 224 = .ok (.aload_n 0, 1) := by decide +kernel
theorem dL_texts_225 : decode cL_texts 225 = .ok (.bipush 7, 2) := by decide +kernel
theorem dL_texts_227 : decode cL_texts 227 = .ok (.iconst 0, 1) := by decide +kernel
theorem dL_texts_228 : decode cL_texts 228 = .ok (.iconst 0, 1) := by decide +kernel
theorem dL_texts_229 : decode cL_texts 229 = .ok (.iconst 0, 1) := by decide +kernel
theorem dL_texts_230 : decode cL_texts 230 = .ok (.iconst 0, 1) := by decide +kernel
theorem dL_texts_231 : decode cL_texts 231 = .ok (.invokestatic 86, 3) := by decide +kernel
theorem dL_texts_234 : decode cL_texts 234 = .ok (.bipush (-12), 2) := by decide +kernel
theorem dL_texts_236 : decode cL_texts 236 = .ok (.if_icmp .ne 153, 3) := by decide +kernel
theorem dL_texts_239 : decode cL_texts 239 = .ok (.aload_n 0, 1) := by decide +kernel
theorem dL_texts_240 : decode cL_texts 240 = .ok (.ldc2_w 171, 3) := by decide +kernel
theorem dL_texts_243 : decode cL_texts 243 = .ok (.invokestatic 118, 3) := by decide +kernel
theorem dL_texts_246 : decode cL_texts 246 = .ok (.ifCond .eq 143, 3) := by decide +kernel
theorem dL_texts_249 : decode cL_texts 249 = .ok (.aload_n 0, 1) := by decide +kernel
theorem dL_texts_250 : decode cL_texts 250 = .ok (.ldc2_w 173, 3) := by decide +kernel
theorem dL_texts_253 : decode cL_texts 253 = .ok (.invokestatic 118, 3) := by decide +kernel
theorem dL_texts_256 : decode cL_texts 256 = .ok (.ifCond .eq 133, 3) := by decide +kernel
theorem dL_texts_259 : decode cL_texts 259 = .ok (.aload_n 0, 1) := by decide +kernel
theorem dL_texts_260 : decode cL_texts 260 = .ok (.bipush 7, 2) := by decide +kernel
theorem dL_texts_262 : decode cL_texts 262 = .ok (.iconst 0, 1) := by decide +kernel
theorem dL_texts_263 : decode cL_texts 263 = .ok (.iconst 0, 1) := by decide +kernel
theorem dL_texts_264 : decode cL_texts 264 = .ok (.iconst 0, 1) := by decide +kernel
theorem dL_texts_265 : decode cL_texts 265 = .ok (.iconst 0, 1) := by decide +kernel
theorem dL_texts_266 : decode cL_texts 266 = .ok (.invokestatic 86, 3) := by decide +kernel
theorem dL_texts_269 : decode cL_texts 269 = .ok (.bipush (-12), 2) := by decide +kernel
theorem dL_texts_271 : decode cL_texts 271 = .ok (.if_icmp .ne 118, 3) := by decide +kernel
theorem dL_texts_274 : decode cL_texts 274 = .ok (.aload_n 0, 1) := by decide +kernel
theorem dL_texts_275 : decode cL_texts 275 = .ok (.ldc2_w 175, 3) := by decide +kernel
theorem dL_texts_278 : decode cL_texts 278 = .ok (.invokestatic 118, 3) := by decide +kernel
theorem dL_texts_281 : decode cL_texts 281 = .ok (.ifCond .eq 108, 3) := by decide +kernel
theorem dL_texts_284 : decode cL_texts 284 = .ok (.aload_n 0, 1) := by decide +kernel
theorem dL_texts_285 : decode cL_texts 285 = .ok (.ldc2_w 177, 3) := by decide +kernel
theorem dL_texts_288 : decode cL_texts 288 = .ok (.invokestatic 118, 3) := by decide +kernel
theorem dL_texts_291 : decode cL_texts 291 = .ok (.ifCond .eq 98, 3) := by decide +kernel
theorem dL_texts_294 : decode cL_texts 294 = .ok (.aload_n 0, 1) := by decide +kernel
theorem dL_texts_295 : decode cL_texts 295 = .ok (.ldc2_w 165, 3) := by decide +kernel
theorem dL_texts_298 : decode cL_texts 298 = .ok (.invokestatic 118, 3) := by decide +kernel
theorem dL_texts_301 : decode cL_texts 301 = .ok (.ifCond .eq 88, 3) := by decide +kernel
theorem dL_texts_304 : decode cL_texts 304 = .ok (.aload_n 0, 1) := by decide +kernel
theorem dL_texts_305 : decode cL_texts 305 = .ok (.invokevirtual 36, 3) := by decide +kernel
theorem dL_texts_308 : decode cL_texts 308 = .ok (.iconst 4, 1) := by decide +kernel
theorem dL_texts_309 : decode cL_texts 309 = .ok (.if_icmp .ne 80, 3) := by decide +kernel
theorem dL_texts_312 : decode cL_texts 312 = .ok (.aload_n 0, 1) := by decide +kernel
theorem dL_texts_313 : decode cL_texts 313 = .ok (.bipush 7, 2) := by decide +kernel
theorem dL_texts_315 : decode cL_texts 315 = .ok (.invokevirtual 55, 3) := by decide +kernel
theorem dL_texts_318 : decode cL_texts 318 = .ok (.iconst 1, 1) := by decide +kernel
theorem dL_texts_319 : decode cL_texts 319 = .ok (.if_icmp .ne 70, 3) := by decide +kernel
theorem dL_texts_322 : decode cL_texts 322 = .ok (.aload_n 0, 1) := by decide +kernel
theorem dL_texts_323 : decode cL_texts 323 = .ok (.invokevirtual 179, 3) := by decide +kernel
theorem dL_texts_326 : decode cL_texts 326 = .ok (.ifCond .ne 63, 3) := by decide +kernel
theorem dL_texts_329 : decode cL_texts 329 = .ok (.aload_n 0, 1) := by decide +kernel
theorem dL_texts_330 : decode cL_texts 330 = .ok (.iconst 0, 1) := by decide +kernel
theorem dL_texts_331 : decode cL_texts 331 = .ok (.iconst 0, 1) := by decide +kernel
theorem dL_texts_332 : decode cL_texts 332 = .ok (.iconst 0, 1) := by decide +kernel
theorem dL_texts_333 : decode cL_texts 333 = .ok (.iconst 2, 1) := by decide +kernel
theorem dL_texts_334 : decode cL_texts 334 = .ok (.iconst 1, 1) := by decide +kernel
theorem dL_texts_335 : decode cL_texts 335 = .ok (.bipush 9, 2) := by decide +kernel
theorem dL_texts_337 : decode cL_texts 337 = .ok (.iconst 4, 1) := by decide +kernel
theorem dL_texts_338 : decode cL_texts 338 = .ok (.iconst 1, 1) := by decide +kernel
theorem dL_texts_339 : decode cL_texts 339 = .ok (.invokestatic 106, 3) := by decide +kernel
theorem dL_texts_342 : decode cL_texts 342 = .ok (.ifCond .eq 47, 3) := by decide +kernel
theorem dL_texts_345 : decode cL_texts 345 = .ok (.aload_n 0, 1) := by decide +kernel
theorem dL_texts_346 : decode cL_texts 346 = .ok (.iconst 0, 1) := by decide +kernel
theorem dL_texts_347 : decode cL_texts 347 = .ok (.iconst 0, 1) := by decide +kernel
theorem dL_texts_348 : decode cL_texts 348 = .ok (.invokevirtual 52, 3) := by decide +kernel
theorem dL_texts_351 : decode cL_texts 351 = .ok (.iconst 1, 1) := by decide +kernel
theorem dL_texts_352 : decode cL_texts 352 = .ok (.if_icmp .ne 37, 3) := by decide +kernel
theorem dL_texts_355 : decode cL_texts 355 = .ok (.aload_n 0, 1) := by decide +kernel
theorem dL_texts_356 : decode cL_texts 356 = .ok (.iconst 2, 1) := by decide +kernel
theorem dL_texts_357 : decode cL_texts 357 = .ok (.invokevirtual 55, 3) := by decide +kernel
theorem dL_texts_360 : decode cL_texts 360 = .ok (.iconst 3, 1) := by decide +kernel
theorem dL_texts_361 : decode cL_texts 361 = .ok (.if_icmp .ne 28, 3) := by decide +kernel
theorem dL_texts_364 : decode cL_texts 364 = .ok (.aload_n 0, 1) := by decide +kernel
theorem dL_texts_365 : decode cL_texts 365 = .ok (.iconst 3, 1) := by decide +kernel
theorem dL_texts_366 : decode cL_texts 366 = .ok (.invokevirtual 55, 3) := by decide +kernel
theorem dL_texts_369 : decode cL_texts 369 = .ok (.iconst 2, 1) := by decide +kernel
theorem dL_texts_370 : decode cL_texts 370 = .ok (.if_icmp .ne 19, 3) := by decide +kernel
theorem dL_texts_373 : decode cL_texts 373 = .ok (.aload_n 0, 1) := by decide +kernel
theorem dL_texts_374 : decode cL_texts 374 = .ok (.invokevirtual 40, 3) := by decide +kernel
theorem dL_texts_377 : decode cL_texts 377 = .ok (.ifCond .ne 12, 3) := by decide +kernel
theorem dL_texts_380 : decode cL_texts 380 = .ok (.aload_n 0, 1) := by decide +kernel
theorem dL_texts_381 : decode cL_texts 381 = .ok (.iconst 0, 1) := by decide +kernel
theorem dL_texts_382 : decode cL_texts 382 = .ok (.iconst 0, 1) := by decide +kernel
theorem dL_texts_383 : decode cL_texts 383 = .ok (.invokevirtual 52, 3) := by decide +kernel
theorem dL_texts_386 : decode cL_texts 386 = .ok (.ifCond .eq 5, 3) := by decide +kernel
theorem dL_texts_389 : decode cL_texts 389 = .ok (.iconst 0, 1) := by decide +kernel
theorem dL_texts_390 : decode cL_texts 390 = .ok (.ireturn, 1) := by decide +kernel
theorem dL_texts_391 : decode cL_texts 391 = .ok (.iconst 0, 1) := by decide +kernel
theorem dL_texts_392 : decode cL_texts 392 = .ok (.istore_n 1, 1) := by decide +kernel
theorem dL_texts_393 : decode cL_texts 393 = .ok (.iload_n 1, 1) := by decide +kernel
theorem dL_texts_394 : decode cL_texts 394 = .ok (.bipush 60, 2) := by decide +kernel
theorem dL_texts_396 : decode cL_texts 396 = .ok (.if_icmp .ge 23, 3) := by decide +kernel
theorem dL_texts_399 : decode cL_texts 399 = .ok (.aload_n 0, 1) := by decide +kernel
theorem dL_texts_400 : decode cL_texts 400 = .ok (.bipush 114, 2) := by decide +kernel
theorem dL_texts_402 : decode cL_texts 402 = .ok (.invokevirtual 32, 3) := by decide +kernel
theorem dL_texts_405 : decode cL_texts 405 = .ok (.iload_n 1, 1) := by decide +kernel
theorem dL_texts_406 : decode cL_texts 406 = .ok (.iconst 1, 1) := by decide +kernel
theorem dL_texts_407 : decode cL_texts 407 = .ok (.iadd, 1) := by decide +kernel
theorem dL_texts_408 : decode cL_texts 408 = .ok (.if_icmp .eq 5, 3) := by decide +kernel
theorem dL_texts_411 : decode cL_texts 411 = .ok (.iconst 0, 1) := by decide +kernel
theorem dL_texts_412 : decode cL_texts 412 = .ok (.ireturn, 1) := by decide +kernel
theorem dL_texts_413 : decode cL_texts 413 = .ok (.iinc 1 1, 3) := by decide +kernel
theorem dL_texts_416 : decode cL_texts 416 = .ok (.goto (-23), 3) := by decide +kernel
theorem dL_texts_419 : decode cL_texts 419 = .ok (.aload_n 0, 1) := by decide +kernel
theorem dL_texts_420 : decode cL_texts 420 = .ok (.bipush 6, 2) := by decide +kernel
theorem dL_texts_422 : decode cL_texts 422 = .ok (.bipush 114, 2) := by decide +kernel
theorem dL_texts_424 : decode cL_texts 424 = .ok (.iconst 0, 1) := by decide +kernel
theorem dL_texts_425 : decode cL_texts 425 = .ok (.iconst 0, 1) := by decide +kernel
theorem dL_texts_426 : decode cL_texts 426 = .ok (.iconst 0, 1) := by decide +kernel
theorem dL_texts_427 : decode cL_texts 427 = .ok (.invokestatic 86, 3) := by decide +kernel
theorem dL_texts_430 : decode cL_texts 430 = .ok (.bipush (-13), 2) := by decide +kernel
theorem dL_texts_432 : decode cL_texts 432 = .ok (.if_icmp .ne 32, 3) := by decide +kernel
theorem dL_texts_435 : decode cL_texts 435 = .ok (.aload_n 0, 1) := by decide +kernel
theorem dL_texts_436 : decode cL_texts 436 = .ok (.bipush 6, 2) := by decide +kernel
theorem dL_texts_438 : decode cL_texts 438 = .ok (.bipush 32, 2) := by decide +kernel
theorem dL_texts_440 : decode cL_texts 440 = .ok (.iconst 0, 1) := by decide +kernel
theorem dL_texts_441 : decode cL_texts 441 = .ok (.iconst 0, 1) := by decide +kernel
theorem dL_texts_442 : decode cL_texts 442 = .ok (.iconst 0, 1) := by decide +kernel
theorem dL_texts_443 : decode cL_texts 443 = .ok (.invokestatic 86, 3) := by decide +kernel
theorem dL_texts_446 : decode cL_texts 446 = .ok (.bipush (-12), 2) := by decide +kernel
theorem dL_texts_448 : decode cL_texts 448 = .ok (.if_icmp .ne 16, 3) := by decide +kernel
theorem dL_texts_451 : decode cL_texts 451 = .ok (.aload_n 0, 1) := by decide +kernel
theorem dL_texts_452 : decode cL_texts 452 = .ok (.invokevirtual 179, 3) := by decide +kernel
theorem dL_texts_455 : decode cL_texts 455 = .ok (.bipush 60, 2) := by decide +kernel
theorem dL_texts_457 : decode cL_texts 457 = .ok (.if_icmp .ne 7, 3) := by decide +kernel
theorem dL_texts_460 : decode cL_texts 460 = .ok (.iconst 1, 1) := by decide +kernel
theorem dL_texts_461 : decode cL_texts 461 = .ok (.goto 4, 3) := by decide +kernel
theorem dL_texts_464 : decode cL_texts 464 = .ok (.iconst 0, 1) := by decide +kernel
theorem dL_texts_465 : decode cL_texts 465 = .ok (.ireturn, 1) := by decide +kernel
theorem dL_law_0 : decode cL_law 0 = .ok (.invokestatic 182, 3) := by decide +kernel
theorem dL_law_3 : decode cL_law 3 = .ok (.ifCond .eq 9, 3) := by decide +kernel
theorem dL_law_6 : decode cL_law 6 = .ok (.invokestatic 186, 3) := by decide +kernel
theorem dL_law_9 : decode cL_law 9 = .ok (.ifCond .ne 5, 3) := by decide +kernel
theorem dL_law_12 : decode cL_law 12 = .ok (.iconst 0, 1) := by decide +kernel
theorem dL_law_13 : decode cL_law 13 = .ok (.ireturn, 1) := by decide +kernel
theorem dL_law_14 : decode cL_law 14 = .ok (.new 10, 3) := by decide +kernel
theorem dL_law_17 : decode cL_law 17 = .ok (.dup, 1) := by decide +kernel
theorem dL_law_18 : decode cL_law 18 = .ok (.invokespecial 101, 3) := by decide +kernel
theorem dL_law_21 : decode cL_law 21 = .ok (.astore_n 1, 1) := by decide +kernel
theorem dL_law_22 : decode cL_law 22 = .ok (.bipush 64, 2) := by decide +kernel
theorem dL_law_24 : decode cL_law 24 = .ok (.newarray .long, 2) := by decide +kernel
theorem dL_law_26 : decode cL_law 26 = .ok (.astore_n 2, 1) := by decide +kernel
theorem dL_law_27 : decode cL_law 27 = .ok (.iconst 0, 1) := by decide +kernel
theorem dL_law_28 : decode cL_law 28 = .ok (.istore_n 3, 1) := by decide +kernel
theorem dL_law_29 : decode cL_law 29 = .ok (.iconst 0, 1) := by decide +kernel
theorem dL_law_30 : decode cL_law 30 = .ok (.istore 4, 2) := by decide +kernel
theorem dL_law_32 : decode cL_law 32 = .ok (.iload 4, 2) := by decide +kernel
theorem dL_law_34 : decode cL_law 34 = .ok (.bipush 24, 2) := by decide +kernel
theorem dL_law_36 : decode cL_law 36 = .ok (.if_icmp .ge 278, 3) := by decide +kernel
theorem dL_law_39 : decode cL_law 39 = .ok (.aload_n 0, 1) := by decide +kernel
theorem dL_law_40 : decode cL_law 40 = .ok (.iload 4, 2) := by decide +kernel
theorem dL_law_42 : decode cL_law 42 = .ok (.invokestatic 189, 3) := by decide +kernel
theorem dL_law_45 : decode cL_law 45 = .ok (.istore 5, 2) := by decide +kernel
theorem dL_law_47 : decode cL_law 47 = .ok (.iload 5, 2) := by decide +kernel
theorem dL_law_49 : decode cL_law 49 = .ok (.bipush 8, 2) := by decide +kernel
theorem dL_law_51 : decode cL_law 51 = .ok (.invokestatic 193, 3) := by decide +kernel
theorem dL_law_54 : decode cL_law 54 = .ok (.istore 6, 2) := by decide +kernel
theorem dL_law_56 : decode cL_law 56 = .ok (.aload_n 2, 1) := by decide +kernel
theorem dL_law_57 : decode cL_law 57 = .ok (.iload_n 3, 1) := by decide +kernel
theorem dL_law_58 : decode cL_law 58 = .ok (.aload_n 1, 1) := by decide +kernel
theorem dL_law_59 : decode cL_law 59 = .ok (.invokestatic 93, 3) := by decide +kernel
theorem dL_law_62 : decode cL_law 62 = .ok (.lastore, 1) := by decide +kernel
theorem dL_law_63 : decode cL_law 63 = .ok (.aload_n 1, 1) := by decide +kernel
theorem dL_law_64 : decode cL_law 64 = .ok (.bipush 7, 2) := by decide +kernel
theorem dL_law_66 : decode cL_law 66 = .ok (.invokevirtual 55, 3) := by decide +kernel
theorem dL_law_69 : decode cL_law 69 = .ok (.istore 7, 2) := by decide +kernel
theorem dL_law_71 : decode cL_law 71 = .ok (.iload 5, 2) := by decide +kernel
theorem dL_law_73 : decode cL_law 73 = .ok (.iconst 3, 1) := by decide +kernel
theorem dL_law_74 : decode cL_law 74 = .ok (.ishr, 1) := by decide +kernel
theorem dL_law_75 : decode cL_law 75 = .ok (.iconst 5, 1) := by decide +kernel
theorem dL_law_76 : decode cL_law 76 = .ok (.invokestatic 193, 3) := by decide +kernel
theorem dL_law_79 : decode cL_law 79 = .ok (.istore 8, 2) := by decide +kernel
theorem dL_law_81 : decode cL_law 81 = .ok (.iload 5, 2) := by decide +kernel
theorem dL_law_83 : decode cL_law 83 = .ok (.bipush 6, 2) := by decide +kernel
theorem dL_law_85 : decode cL_law 85 = .ok (.ishr, 1) := by decide +kernel
theorem dL_law_86 : decode cL_law 86 = .ok (.iconst 3, 1) := by decide +kernel
theorem dL_law_87 : decode cL_law 87 = .ok (.invokestatic 193, 3) := by decide +kernel
theorem dL_law_90 : decode cL_law 90 = .ok (.istore 9, 2) := by decide +kernel
theorem dL_law_92 : decode cL_law 92 = .ok (.iload 5, 2) := by decide +kernel
theorem dL_law_94 : decode cL_law 94 = .ok (.bipush 8, 2) := by decide +kernel
theorem dL_law_96 : decode cL_law 96 = .ok (.ishr, 1) := by decide +kernel
theorem dL_law_97 : decode cL_law 97 = .ok (.iconst 3, 1) := by decide +kernel
theorem dL_law_98 : decode cL_law 98 = .ok (.invokestatic 193, 3) := by decide +kernel
theorem dL_law_101 : decode cL_law 101 = .ok (.istore 10, 2) := by decide +kernel
theorem dL_law_103 : decode cL_law 103 = .ok (.iload 6, 2) := by decide +kernel
theorem dL_law_105 : decode cL_law 105 = .ok (.ifCond .ne 18, 3) := by decide +kernel
theorem dL_law_108 : decode cL_law 108 = .ok (.aload_n 1, 1) := by decide +kernel
theorem dL_law_109 : decode cL_law 109 = .ok (.iconst 0, 1) := by decide +kernel
theorem dL_law_110 : decode cL_law 110 = .ok (.iload 8, 2) := by decide +kernel
theorem dL_law_112 : decode cL_law 112 = .ok (.iload 9, 2) := by decide +kernel
theorem dL_law_114 : decode cL_law 114 = .ok (.iload 10, 2) := by decide +kernel
theorem dL_law_116 : decode cL_law 116 = .ok (.iconst 0, 1) := by decide +kernel
theorem dL_law_117 : decode cL_law 117 = .ok (.invokestatic 86, 3) := by decide +kernel
theorem dL_law_120 : decode cL_law 120 = .ok (.goto 144, 3) := by decide +kernel
theorem dL_law_123 : decode cL_law 123 = .ok (.iload 6, 2) := by decide +kernel
theorem dL_law_125 : decode cL_law 125 = .ok (.iconst 4, 1) := by decide +kernel
theorem dL_law_126 : decode cL_law 126 = .ok (.if_icmp .ge 27, 3) := by decide +kernel
theorem dL_law_129 : decode cL_law 129 = .ok (.aload_n 1, 1) := by decide +kernel
theorem dL_law_130 : decode cL_law 130 = .ok (.iconst 1, 1) := by decide +kernel
theorem dL_law_131 : decode cL_law 131 = .ok (.iload 8, 2) := by decide +kernel
theorem dL_law_133 : decode cL_law 133 = .ok (.iload 9, 2) := by decide +kernel
theorem dL_law_135 : decode cL_law 135 = .ok (.iload 10, 2) := by decide +kernel
theorem dL_law_137 : decode cL_law 137 = .ok (.iload 5, 2) := by decide +kernel
theorem dL_law_139 : decode cL_law 139 = .ok (.bipush 10, 2) := by decide +kernel
theorem dL_law_141 : decode cL_law 141 = .ok (.ishr, 1) := by decide +kernel
theorem dL_law_142 : decode cL_law 142 = .ok (.bipush 100, 2) := by decide +kernel
theorem dL_law_144 : decode cL_law 144 = .ok (.invokestatic 193, 3) := by decide +kernel
theorem dL_law_147 : decode cL_law 147 = .ok (.invokestatic 86, 3) := by decide +kernel
theorem dL_law_150 : decode cL_law 150 = .ok (.goto 114, 3) := by decide +kernel
theorem dL_law_153 : decode cL_law 153 = .ok (.iload 6, 2) := by decide +kernel
theorem dL_law_155 : decode cL_law 155 = .ok (.iconst 4, 1) := by decide +kernel
theorem dL_law_156 : decode cL_law 156 = .ok (.if_icmp .ne 22, 3) := by decide +kernel
theorem dL_law_159 : decode cL_law 159 = .ok (.aload_n 1, 1) := by decide +kernel
theorem dL_law_160 : decode cL_law 160 = .ok (.iconst 2, 1) := by decide +kernel
theorem dL_law_161 : decode cL_law 161 = .ok (.iload 10, 2) := by decide +kernel
theorem dL_law_163 : decode cL_law 163 = .ok (.iload 10, 2) := by decide +kernel
theorem dL_law_165 : decode cL_law 165 = .ok (.iconst 1, 1) := by decide +kernel
theorem dL_law_166 : decode cL_law 166 = .ok (.iadd, 1) := by decide +kernel
theorem dL_law_167 : decode cL_law 167 = .ok (.iconst 3, 1) := by decide +kernel
theorem dL_law_168 : decode cL_law 168 = .ok (.irem, 1) := by decide +kernel
theorem dL_law_169 : decode cL_law 169 = .ok (.iload 9, 2) := by decide +kernel
theorem dL_law_171 : decode cL_law 171 = .ok (.iconst 0, 1) := by decide +kernel
theorem dL_law_172 : decode cL_law 172 = .ok (.invokestatic 86, 3) := by decide +kernel
theorem dL_law_175 : decode cL_law 175 = .ok (.goto 89, 3) := by decide +kernel
theorem dL_law_178 : decode cL_law 178 = .ok (.iload 6, 2) := by decide +kernel
theorem dL_law_180 : decode cL_law 180 = .ok (.iconst 5, 1) := by decide +kernel
theorem dL_law_181 : decode cL_law 181 = .ok (.if_icmp .ne 26, 3) := by decide +kernel
theorem dL_law_184 : decode cL_law 184 = .ok (.aload_n 1, 1) := by decide +kernel
theorem dL_law_185 : decode cL_law 185 = .ok (.iconst 3, 1) := by decide +kernel
theorem dL_law_186 : decode cL_law 186 = .ok (.iload 8, 2) := by decide +kernel
theorem dL_law_188 : decode cL_law 188 = .ok (.iload 9, 2) := by decide +kernel
theorem dL_law_190 : decode cL_law 190 = .ok (.iload 10, 2) := by decide +kernel
theorem dL_law_192 : decode cL_law 192 = .ok (.iload 5, 2) := by decide +kernel
theorem dL_law_194 : decode cL_law 194 = .ok (.bipush 10, 2) := by decide +kernel
theorem dL_law_196 : decode cL_law 196 = .ok (.ishr, 1) := by decide +kernel
theorem dL_law_197 : decode cL_law 197 = .ok (.iconst 4, 1) := by decide +kernel
theorem dL_law_198 : decode cL_law 198 = .ok (.invokestatic 193, 3) := by decide +kernel
theorem dL_law_201 : decode cL_law 201 = .ok (.invokestatic 86, 3) := by decide +kernel
theorem dL_law_204 : decode cL_law 204 = .ok (.goto 60, 3) := by decide +kernel
theorem dL_law_207 : decode cL_law 207 = .ok (.iload 6, 2) := by decide +kernel
theorem dL_law_209 : decode cL_law 209 = .ok (.bipush 6, 2) := by decide +kernel
theorem dL_law_211 : decode cL_law 211 = .ok (.if_icmp .ne 17, 3) := by decide +kernel
theorem dL_law_214 : decode cL_law 214 = .ok (.aload_n 1, 1) := by decide +kernel
theorem dL_law_215 : decode cL_law 215 = .ok (.iconst 5, 1) := by decide +kernel
theorem dL_law_216 : decode cL_law 216 = .ok (.iload 8, 2) := by decide +kernel
theorem dL_law_218 : decode cL_law 218 = .ok (.iload 9, 2) := by decide +kernel
theorem dL_law_220 : decode cL_law 220 = .ok (.iconst 0, 1) := by decide +kernel
theorem dL_law_221 : decode cL_law 221 = .ok (.iconst 0, 1) := by decide +kernel
theorem dL_law_222 : decode cL_law 222 = .ok (.invokestatic 86, 3) := by decide +kernel
theorem dL_law_225 : decode cL_law 225 = .ok (.goto 39, 3) := by decide +kernel
theorem dL_law_228 : decode cL_law 228 = .ok (.iload 5, 2) := by decide +kernel
theorem dL_law_230 : decode cL_law 230 = .ok (.bipush 10, 2) := by decide +kernel
theorem dL_law_232 : decode cL_law 232 = .ok (.ishr, 1) := by decide +kernel
theorem dL_law_233 : decode cL_law 233 = .ok (.iconst 2, 1) := by decide +kernel
theorem dL_law_234 : decode cL_law 234 = .ok (.invokestatic 193, 3) := by decide +kernel
theorem dL_law_237 : decode cL_law 237 = .ok (.ifCond .ne 16, 3) := by decide +kernel
theorem dL_law_240 : decode cL_law 240 = .ok (.aload_n 1, 1) := by decide +kernel
theorem dL_law_241 : decode cL_law 241 = .ok (.bipush 17, 2) := by decide +kernel
theorem dL_law_243 : decode cL_law 243 = .ok (.iconst 0, 1) := by decide +kernel
theorem dL_law_244 : decode cL_law 244 = .ok (.iconst 0, 1) := by decide +kernel
theorem dL_law_245 : decode cL_law 245 = .ok (.iconst 0, 1) := by decide +kernel
theorem dL_law_246 : decode cL_law 246 = .ok (.iconst 0, 1) := by decide +kernel
theorem dL_law_247 : decode cL_law 247 = .ok (.invokestatic 86, 3) := by decide +kernel
theorem dL_law_250 : decode cL_law 250 = .ok (.goto 14, 3) := by decide +kernel
theorem dL_law_253 : decode cL_law 253 = .ok (.aload_n 1, 1) := by decide +kernel
theorem dL_law_254 : decode cL_law 254 = .ok (.iconst 4, 1) := by decide +kernel
theorem dL_law_255 : decode cL_law 255 = .ok (.iload 8, 2) := by decide +kernel
theorem dL_law_257 : decode cL_law 257 = .ok (.iload 9, 2) := by decide +kernel
theorem dL_law_259 : decode cL_law 259 = .ok (.iconst 0, 1) := by decide +kernel
theorem dL_law_260 : decode cL_law 260 = .ok (.iconst 0, 1) := by decide +kernel
theorem dL_law_261 : decode cL_law 261 = .ok (.invokestatic 86, 3) := by decide +kernel
theorem dL_law_264 : decode cL_law 264 = .ok (.istore 11, 2) := by decide +kernel
theorem dL_law_266 : decode cL_law 266 = .ok (.iload 11, 2) := by decide +kernel
theorem dL_law_268 : decode cL_law 268 = .ok (.ifCond .ge 27, 3) := by decide +kernel
theorem dL_law_271 : decode cL_law 271 = .ok (.aload_n 1, 1) := by decide +kernel
theorem dL_law_272 : decode cL_law 272 = .ok (.bipush 7, 2) := by decide +kernel
theorem dL_law_274 : decode cL_law 274 = .ok (.invokevirtual 55, 3) := by decide +kernel
theorem dL_law_277 : decode cL_law 277 = .ok (.iload 7, 2) := by decide +kernel
theorem dL_law_279 : decode cL_law 279 = .ok (.if_icmp .ne 14, 3) := by decide +kernel
theorem dL_law_282 : decode cL_law 282 = .ok (.aload_n 1, 1) := by decide +kernel
theorem dL_law_283 : decode cL_law 283 = .ok (.invokestatic 93, 3) := by decide +kernel
theorem dL_law_286 : decode cL_law 286 = .ok (.aload_n 2, 1) := by decide +kernel
theorem dL_law_287 : decode cL_law 287 = .ok (.iload_n 3, 1) := by decide +kernel
theorem dL_law_288 : decode cL_law 288 = .ok (.laload, 1) := by decide +kernel
theorem dL_law_289 : decode cL_law 289 = .ok (.lcmp, 1) := by decide +kernel
theorem dL_law_290 : decode cL_law 290 = .ok (.ifCond .eq 5, 3) := by decide +kernel
theorem dL_law_293 : decode cL_law 293 = .ok (.iconst 0, 1) := by decide +kernel
theorem dL_law_294 : decode cL_law 294 = .ok (.ireturn, 1) := by decide +kernel
theorem dL_law_295 : decode cL_law 295 = .ok (.iload_n 3, 1) := by decide +kernel
theorem dL_law_296 : decode cL_law 296 = .ok (.iload 11, 2) := by decide +kernel
theorem dL_law_298 : decode cL_law 298 = .ok (.ifCond .ge 7, 3) := by decide +kernel
theorem dL_law_301 : decode cL_law 301 = .ok (.iconst 0, 1) := by decide +kernel
theorem dL_law_302 : decode cL_law 302 = .ok (.goto 4, 3) := by decide +kernel
theorem dL_law_305 : decode cL_law 305 = .ok (.iconst 1, 1) := by decide +kernel
theorem dL_law_306 : decode cL_law 306 = .ok (.iadd, 1) := by decide +kernel
theorem dL_law_307 : decode cL_law 307 = .ok (.istore_n 3, 1) := by decide +kernel
theorem dL_law_308 : decode cL_law 308 = .ok (.iinc 4 1, 3) := by decide +kernel
theorem dL_law_311 : decode cL_law 311 = .ok (.goto (-279), 3) := by decide +kernel
theorem dL_law_314 : decode cL_law 314 = .ok (.aload_n 2, 1) := by decide +kernel
theorem dL_law_315 : decode cL_law 315 = .ok (.iload_n 3, 1) := by decide +kernel
theorem dL_law_316 : decode cL_law 316 = .ok (.aload_n 1, 1) := by decide +kernel
theorem dL_law_317 : decode cL_law 317 = .ok (.invokestatic 93, 3) := by decide +kernel
theorem dL_law_320 : decode cL_law 320 = .ok (.lastore, 1) := by decide +kernel
theorem dL_law_321 : decode cL_law 321 = .ok (.aload_n 1, 1) := by decide +kernel
theorem dL_law_322 : decode cL_law 322 = .ok (.invokevirtual 196, 3) := by decide +kernel
theorem dL_law_325 : decode cL_law 325 = .ok (.lstore 4, 2) := by decide +kernel
theorem dL_law_327 : decode cL_law 327 = .ok (.aload_n 1, 1) := by decide +kernel
theorem dL_law_328 : decode cL_law 328 = .ok (.bipush 7, 2) := by decide +kernel
theorem dL_law_330 : decode cL_law 330 = .ok (.invokevirtual 55, 3) := by decide +kernel
theorem dL_law_333 : decode cL_law 333 = .ok (.istore 6, 2) := by decide +kernel
theorem dL_law_335 : decode cL_law 335 = .ok (.aload_n 1, 1) := by decide +kernel
theorem dL_law_336 : decode cL_law 336 = .ok (.iconst 0, 1) := by decide +kernel
theorem dL_law_337 : decode cL_law 337 = .ok (.iconst 0, 1) := by decide +kernel
theorem dL_law_338 : decode cL_law 338 = .ok (.iconst 0, 1) := by decide +kernel
theorem dL_law_339 : decode cL_law 339 = .ok (.invokevirtual 9, 3) := by decide +kernel
theorem dL_law_342 : decode cL_law 342 = .ok (.ifCond .lt 50, 3) := by decide +kernel
theorem dL_law_345 : decode cL_law 345 = .ok (.aload_n 1, 1) := by decide +kernel
theorem dL_law_346 : decode cL_law 346 = .ok (.iconst 1, 1) := by decide +kernel
theorem dL_law_347 : decode cL_law 347 = .ok (.iconst 1, 1) := by decide +kernel
theorem dL_law_348 : decode cL_law 348 = .ok (.invokevirtual 25, 3) := by decide +kernel
theorem dL_law_351 : decode cL_law 351 = .ok (.ifCond .lt 41, 3) := by decide +kernel
theorem dL_law_354 : decode cL_law 354 = .ok (.aload_n 1, 1) := by decide +kernel
theorem dL_law_355 : decode cL_law 355 = .ok (.invokestatic 112, 3) := by decide +kernel
theorem dL_law_358 : decode cL_law 358 = .ok (.ifCond .eq 34, 3) := by decide +kernel
theorem dL_law_361 : decode cL_law 361 = .ok (.aload_n 1, 1) := by decide +kernel
theorem dL_law_362 : decode cL_law 362 = .ok (.invokevirtual 40, 3) := by decide +kernel
theorem dL_law_365 : decode cL_law 365 = .ok (.iconst 1, 1) := by decide +kernel
theorem dL_law_366 : decode cL_law 366 = .ok (.if_icmp .lt 26, 3) := by decide +kernel
theorem dL_law_369 : decode cL_law 369 = .ok (.aload_n 1, 1) := by decide +kernel
theorem dL_law_370 : decode cL_law 370 = .ok (.invokevirtual 40, 3) := by decide +kernel
theorem dL_law_373 : decode cL_law 373 = .ok (.ifCond .lt 19, 3) := by decide +kernel
theorem dL_law_376 : decode cL_law 376 = .ok (.iload 6, 2) := by decide +kernel
theorem dL_law_378 : decode cL_law 378 = .ok (.iconst 5, 1) := by decide +kernel
theorem dL_law_379 : decode cL_law 379 = .ok (.if_icmp .ge 15, 3) := by decide +kernel
theorem dL_law_382 : decode cL_law 382 = .ok (.aload_n 1, 1) := by decide +kernel
theorem dL_law_383 : decode cL_law 383 = .ok (.invokevirtual 196, 3) := by decide +kernel
theorem dL_law_386 : decode cL_law 386 = .ok (.lload 4, 2) := by decide +kernel
theorem dL_law_388 : decode cL_law 388 = .ok (.lcmp, 1) := by decide +kernel
theorem dL_law_389 : decode cL_law 389 = .ok (.ifCond .eq 5, 3) := by decide +kernel
theorem dL_law_392 : decode cL_law 392 = .ok (.iconst 0, 1) := by decide +kernel
theorem dL_law_393 : decode cL_law 393 = .ok (.ireturn, 1) := by decide +kernel
theorem dL_law_394 : decode cL_law 394 = .ok (.iconst 0, 1) := by decide +kernel
theorem dL_law_395 : decode cL_law 395 = .ok (.istore 7, 2) := by decide +kernel
theorem dL_law_397 : decode cL_law 397 = .ok (.aload_n 1, 1) := by decide +kernel
theorem dL_law_398 : decode cL_law 398 = .ok (.bipush 7, 2) := by decide +kernel
theorem dL_law_400 : decode cL_law 400 = .ok (.invokevirtual 55, 3) := by decide +kernel
theorem dL_law_403 : decode cL_law 403 = .ok (.ifCond .le 39, 3) := by decide +kernel
theorem dL_law_406 : decode cL_law 406 = .ok (.iload 7, 2) := by decide +kernel
theorem dL_law_408 : decode cL_law 408 = .ok (.bipush 6, 2) := by decide +kernel
theorem dL_law_410 : decode cL_law 410 = .ok (.if_icmp .gt 24, 3) := by decide +kernel
theorem dL_law_413 : decode cL_law 413 = .ok (.aload_n 1, 1) := by decide +kernel
theorem dL_law_414 : decode cL_law 414 = .ok (.invokestatic 93, 3) := by decide +kernel
theorem dL_law_417 : decode cL_law 417 = .ok (.aload_n 2, 1) := by decide +kernel
theorem dL_law_418 : decode cL_law 418 = .ok (.iload_n 3, 1) := by decide +kernel
theorem dL_law_419 : decode cL_law 419 = .ok (.iload 7, 2) := by decide +kernel
theorem dL_law_421 : decode cL_law 421 = .ok (.isub, 1) := by decide +kernel
theorem dL_law_422 : decode cL_law 422 = .ok (.laload, 1) := by decide +kernel
theorem dL_law_423 : decode cL_law 423 = .ok (.lcmp, 1) := by decide +kernel
theorem dL_law_424 : decode cL_law 424 = .ok (.ifCond .ne 10, 3) := by decide +kernel
theorem dL_law_427 : decode cL_law 427 = .ok (.aload_n 1, 1) := by decide +kernel
theorem dL_law_428 : decode cL_law 428 = .ok (.invokevirtual 40, 3) := by decide +kernel
theorem dL_law_431 : decode cL_law 431 = .ok (.ifCond .ge 5, 3) := by decide +kernel
theorem dL_law_434 : decode cL_law 434 = .ok (.iconst 0, 1) := by decide +kernel
theorem dL_law_435 : decode cL_law 435 = .ok (.ireturn, 1) := by decide +kernel
theorem dL_law_436 : decode cL_law 436 = .ok (.iinc 7 1, 3) := by decide +kernel
theorem dL_law_439 : decode cL_law 439 = .ok (.goto (-42), 3) := by decide +kernel
theorem dL_law_442 : decode cL_law 442 = .ok (.aload_n 1, 1) := by decide +kernel
theorem dL_law_443 : decode cL_law 443 = .ok (.bipush 8, 2) := by decide +kernel
theorem dL_law_445 : decode cL_law 445 = .ok (.iconst 0, 1) := by decide +kernel
theorem dL_law_446 : decode cL_law 446 = .ok (.iconst 0, 1) := by decide +kernel
theorem dL_law_447 : decode cL_law 447 = .ok (.iconst 0, 1) := by decide +kernel
theorem dL_law_448 : decode cL_law 448 = .ok (.iconst 0, 1) := by decide +kernel
theorem dL_law_449 : decode cL_law 449 = .ok (.invokestatic 86, 3) := by decide +kernel
theorem dL_law_452 : decode cL_law 452 = .ok (.bipush (-13), 2) := by decide +kernel
theorem dL_law_454 : decode cL_law 454 = .ok (.if_icmp .ne 7, 3) := by decide +kernel
theorem dL_law_457 : decode cL_law 457 = .ok (.iconst 1, 1) := by decide +kernel
theorem dL_law_458 : decode cL_law 458 = .ok (.goto 4, 3) := by decide +kernel
theorem dL_law_461 : decode cL_law 461 = .ok (.iconst 0, 1) := by decide +kernel
theorem dL_law_462 : decode cL_law 462 = .ok (.ireturn, 1) := by decide +kernel
