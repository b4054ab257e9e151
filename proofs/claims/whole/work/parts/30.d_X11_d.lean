theorem dX11_happen_39 : decode cX11_happen 39 = .ok (.sipush 256, 3) := by decide +kernel
theorem dX11_happen_42 : decode cX11_happen 42 = .ok (.irem, 1) := by decide +kernel
theorem dX11_happen_43 : decode cX11_happen 43 = .ok (.imul, 1) := by decide +kernel
theorem dX11_happen_44 : decode cX11_happen 44 = .ok (.istore_n 3, 1) := by decide +kernel
theorem dX11_happen_45 : decode cX11_happen 45 = .ok (.aload_n 0, 1) := by decide +kernel
theorem dX11_happen_46 : decode cX11_happen 46 = .ok (.getfield 30, 3) := by decide +kernel
theorem dX11_happen_49 : decode cX11_happen 49 = .ok (.iload_n 3, 1) := by decide +kernel
theorem dX11_happen_50 : decode cX11_happen 50 = .ok (.aload_n 0, 1) := by decide +kernel
theorem dX11_happen_51 : decode cX11_happen 51 = .ok (.getfield 340, 3) := by decide +kernel
theorem dX11_happen_54 : decode cX11_happen 54 = .ok (.iastore, 1) := by decide +kernel
theorem dX11_happen_55 : decode cX11_happen 55 = .ok (.aload_n 0, 1) := by decide +kernel
theorem dX11_happen_56 : decode cX11_happen 56 = .ok (.getfield 30, 3) := by decide +kernel
theorem dX11_happen_59 : decode cX11_happen 59 = .ok (.iload_n 3, 1) := by decide +kernel
theorem dX11_happen_60 : decode cX11_happen 60 = .ok (.iconst 1, 1) := by decide +kernel
theorem dX11_happen_61 : decode cX11_happen 61 = .ok (.iadd, 1) := by decide +kernel
theorem dX11_happen_62 : decode cX11_happen 62 = .ok (.aload_n 0, 1) := by decide +kernel
theorem dX11_happen_63 : decode cX11_happen 63 = .ok (.getfield 197, 3) := by decide +kernel
theorem dX11_happen_66 : decode cX11_happen 66 = .ok (.iastore, 1) := by decide +kernel
theorem dX11_happen_67 : decode cX11_happen 67 = .ok (.aload_n 0, 1) := by decide +kernel
theorem dX11_happen_68 : decode cX11_happen 68 = .ok (.getfield 30, 3) := by decide +kernel
theorem dX11_happen_71 : decode cX11_happen 71 = .ok (.iload_n 3, 1) := by decide +kernel
theorem dX11_happen_72 : decode cX11_happen 72 = .ok (.iconst 2, 1) := by decide +kernel
theorem dX11_happen_73 : decode cX11_happen 73 = .ok (.iadd, 1) := by decide +kernel
theorem dX11_happen_74 : decode cX11_happen 74 = .ok (.aload_n 0, 1) := by decide +kernel
theorem dX11_happen_75 : decode cX11_happen 75 = .ok (.getfield 197, 3) := by decide +kernel
theorem dX11_happen_78 : decode cX11_happen 78 = .ok (.ifCond .ne 17, 3) := by decide +kernel
theorem dX11_happen_81 : decode cX11_happen 81 = .ok (.aload_n 0, 1) := by decide +kernel
theorem dX11_happen_82 : decode cX11_happen 82 = .ok (.getfield 203, 3) := by decide +kernel
theorem dX11_happen_85 : decode cX11_happen 85 = .ok (.ifCond .le 10, 3) := by decide +kernel
theorem dX11_happen_88 : decode cX11_happen 88 = .ok (.aload_n 0, 1) := by decide +kernel
theorem dX11_happen_89 : decode cX11_happen 89 = .ok (.getfield 203, 3) := by decide +kernel
theorem dX11_happen_92 : decode cX11_happen 92 = .ok (.goto 4, 3) := by decide +kernel
theorem dX11_happen_95 : decode cX11_happen 95 = .ok (.iconst (-1), 1) := by decide +kernel
theorem dX11_happen_96 : decode cX11_happen 96 = .ok (.iastore, 1) := by decide +kernel
theorem dX11_happen_97 : decode cX11_happen 97 = .ok (.aload_n 0, 1) := by decide +kernel
theorem dX11_happen_98 : decode cX11_happen 98 = .ok (.getfield 30, 3) := by decide +kernel
theorem dX11_happen_101 : decode cX11_happen 101 = .ok (.iload_n 3, 1) := by decide +kernel
theorem dX11_happen_102 : decode cX11_happen 102 = .ok (.iconst 3, 1) := by decide +kernel
theorem dX11_happen_103 : decode cX11_happen 103 = .ok (.iadd, 1) := by decide +kernel
theorem dX11_happen_104 : decode cX11_happen 104 = .ok (.aload_n 0, 1) := by decide +kernel
theorem dX11_happen_105 : decode cX11_happen 105 = .ok (.getfield 197, 3) := by decide +kernel
theorem dX11_happen_108 : decode cX11_happen 108 = .ok (.ifCond .ne 14, 3) := by decide +kernel
theorem dX11_happen_111 : decode cX11_happen 111 = .ok (.aload_n 0, 1) := by decide +kernel
theorem dX11_happen_112 : decode cX11_happen 112 = .ok (.getfield 206, 3) := by decide +kernel
theorem dX11_happen_115 : decode cX11_happen 115 = .ok (.ifCond .lt 7, 3) := by decide +kernel
theorem dX11_happen_118 : decode cX11_happen 118 = .ok (.iconst 1, 1) := by decide +kernel
theorem dX11_happen_119 : decode cX11_happen 119 = .ok (.goto 4, 3) := by decide +kernel
theorem dX11_happen_122 : decode cX11_happen 122 = .ok (.iconst 0, 1) := by decide +kernel
theorem dX11_happen_123 : decode cX11_happen 123 = .ok (.iastore, 1) := by decide +kernel
theorem dX11_happen_124 : decode cX11_happen 124 = .ok (.aload_n 0, 1) := by decide +kernel
theorem dX11_happen_125 : decode cX11_happen 125 = .ok (.getfield 30, 3) := by decide +kernel
theorem dX11_happen_128 : decode cX11_happen 128 = .ok (.iload_n 3, 1) := by decide +kernel
theorem dX11_happen_129 : decode cX11_happen 129 = .ok (.iconst 4, 1) := by decide +kernel
theorem dX11_happen_130 : decode cX11_happen 130 = .ok (.iadd, 1) := by decide +kernel
theorem dX11_happen_131 : decode cX11_happen 131 = .ok (.aload_n 0, 1) := by decide +kernel
theorem dX11_happen_132 : decode cX11_happen 132 = .ok (.getfield 197, 3) := by decide +kernel
theorem dX11_happen_135 : decode cX11_happen 135 = .ok (.ifCond .ne 10, 3) := by decide +kernel
theorem dX11_happen_138 : decode cX11_happen 138 = .ok (.aload_n 0, 1) := by decide +kernel
theorem dX11_happen_139 : decode cX11_happen 139 = .ok (.getfield 218, 3) := by decide +kernel
theorem dX11_happen_142 : decode cX11_happen 142 = .ok (.goto 4, 3) := by decide +kernel
theorem dX11_happen_145 : decode cX11_happen 145 = .ok (.iconst (-1), 1) := by decide +kernel
theorem dX11_happen_146 : decode cX11_happen 146 = .ok (.iastore, 1) := by decide +kernel
theorem dX11_happen_147 : decode cX11_happen 147 = .ok (.aload_n 0, 1) := by decide +kernel
theorem dX11_happen_148 : decode cX11_happen 148 = .ok (.getfield 30, 3) := by decide +kernel
theorem dX11_happen_151 : decode cX11_happen 151 = .ok (.iload_n 3, 1) := by decide +kernel
theorem dX11_happen_152 : decode cX11_happen 152 = .ok (.iconst 5, 1) := by decide +kernel
theorem dX11_happen_153 : decode cX11_happen 153 = .ok (.iadd, 1) := by decide +kernel
theorem dX11_happen_154 : decode cX11_happen 154 = .ok (.aload_n 0, 1) := by decide +kernel
theorem dX11_happen_155 : decode cX11_happen 155 = .ok (.getfield 59, 3) := by decide +kernel
theorem dX11_happen_158 : decode cX11_happen 158 = .ok (.ifCond .eq 7, 3) := by decide +kernel
theorem dX11_happen_161 : decode cX11_happen 161 = .ok (.iconst 1, 1) := by decide +kernel
theorem dX11_happen_162 : decode cX11_happen 162 = .ok (.goto 4, 3) := by decide +kernel
theorem dX11_happen_165 : decode cX11_happen 165 = .ok (.iconst 0, 1) := by decide +kernel
theorem dX11_happen_166 : decode cX11_happen 166 = .ok (.iastore, 1) := by decide +kernel
theorem dX11_happen_167 : decode cX11_happen 167 = .ok (.aload_n 0, 1) := by decide +kernel
theorem dX11_happen_168 : decode cX11_happen 168 = .ok (.getfield 30, 3) := by decide +kernel
theorem dX11_happen_171 : decode cX11_happen 171 = .ok (.iload_n 3, 1) := by decide +kernel
theorem dX11_happen_172 : decode cX11_happen 172 = .ok (.bipush 6, 2) := by decide +kernel
theorem dX11_happen_174 : decode cX11_happen 174 = .ok (.iadd, 1) := by decide +kernel
theorem dX11_happen_175 : decode cX11_happen 175 = .ok (.aload_n 0, 1) := by decide +kernel
theorem dX11_happen_176 : decode cX11_happen 176 = .ok (.getfield 318, 3) := by decide +kernel
theorem dX11_happen_179 : decode cX11_happen 179 = .ok (.iastore, 1) := by decide +kernel
theorem dX11_happen_180 : decode cX11_happen 180 = .ok (.aload_n 0, 1) := by decide +kernel
theorem dX11_happen_181 : decode cX11_happen 181 = .ok (.getfield 30, 3) := by decide +kernel
theorem dX11_happen_184 : decode cX11_happen 184 = .ok (.iload_n 3, 1) := by decide +kernel
theorem dX11_happen_185 : decode cX11_happen 185 = .ok (.bipush 7, 2) := by decide +kernel
theorem dX11_happen_187 : decode cX11_happen 187 = .ok (.iadd, 1) := by decide +kernel
theorem dX11_happen_188 : decode cX11_happen 188 = .ok (.aload_n 0, 1) := by decide +kernel
theorem dX11_happen_189 : decode cX11_happen 189 = .ok (.getfield 337, 3) := by decide +kernel
theorem dX11_happen_192 : decode cX11_happen 192 = .ok (.iastore, 1) := by decide +kernel
theorem dX11_happen_193 : decode cX11_happen 193 = .ok (.aload_n 0, 1) := by decide +kernel
theorem dX11_happen_194 : decode cX11_happen 194 = .ok (.getfield 30, 3) := by decide +kernel
theorem dX11_happen_197 : decode cX11_happen 197 = .ok (.iload_n 3, 1) := by decide +kernel
theorem dX11_happen_198 : decode cX11_happen 198 = .ok (.bipush 8, 2) := by decide +kernel
theorem dX11_happen_200 : decode cX11_happen 200 = .ok (.iadd, 1) := by decide +kernel
theorem dX11_happen_201 : decode cX11_happen 201 = .ok (.aload_n 0, 1) := by decide +kernel
theorem dX11_happen_202 : decode cX11_happen 202 = .ok (.getfield 56, 3) := by decide +kernel
theorem dX11_happen_205 : decode cX11_happen 205 = .ok (.iastore, 1) := by decide +kernel
theorem dX11_happen_206 : decode cX11_happen 206 = .ok (.aload_n 0, 1) := by decide +kernel
theorem dX11_happen_207 : decode cX11_happen 207 = .ok (.getfield 30, 3) := by decide +kernel
theorem dX11_happen_210 : decode cX11_happen 210 = .ok (.iload_n 3, 1) := by decide +kernel
theorem dX11_happen_211 : decode cX11_happen 211 = .ok (.bipush 9, 2) := by decide +kernel
theorem dX11_happen_213 : decode cX11_happen 213 = .ok (.iadd, 1) := by decide +kernel
theorem dX11_happen_214 : decode cX11_happen 214 = .ok (.aload_n 0, 1) := by decide +kernel
theorem dX11_happen_215 : decode cX11_happen 215 = .ok (.getfield 197, 3) := by decide +kernel
theorem dX11_happen_218 : decode cX11_happen 218 = .ok (.ifCond .ne 17, 3) := by decide +kernel
theorem dX11_happen_221 : decode cX11_happen 221 = .ok (.aload_n 0, 1) := by decide +kernel
theorem dX11_happen_222 : decode cX11_happen 222 = .ok (.getfield 203, 3) := by decide +kernel
theorem dX11_happen_225 : decode cX11_happen 225 = .ok (.ifCond .le 10, 3) := by decide +kernel
theorem dX11_happen_228 : decode cX11_happen 228 = .ok (.aload_n 0, 1) := by decide +kernel
theorem dX11_happen_229 : decode cX11_happen 229 = .ok (.getfield 240, 3) := by decide +kernel
theorem dX11_happen_232 : decode cX11_happen 232 = .ok (.goto 4, 3) := by decide +kernel
theorem dX11_happen_235 : decode cX11_happen 235 = .ok (.iconst 0, 1) := by decide +kernel
theorem dX11_happen_236 : decode cX11_happen 236 = .ok (.iastore, 1) := by decide +kernel
theorem dX11_happen_237 : decode cX11_happen 237 = .ok (.aload_n 0, 1) := by decide +kernel
theorem dX11_happen_238 : decode cX11_happen 238 = .ok (.getfield 30, 3) := by decide +kernel
theorem dX11_happen_241 : decode cX11_happen 241 = .ok (.iload_n 3, 1) := by decide +kernel
theorem dX11_happen_242 : decode cX11_happen 242 = .ok (.bipush 10, 2) := by decide +kernel
theorem dX11_happen_244 : decode cX11_happen 244 = .ok (.iadd, 1) := by decide +kernel
theorem dX11_happen_245 : decode cX11_happen 245 = .ok (.aload_n 0, 1) := by decide +kernel
theorem dX11_happen_246 : decode cX11_happen 246 = .ok (.getfield 197, 3) := by decide +kernel
theorem dX11_happen_249 : decode cX11_happen 249 = .ok (.ifCond .ne 17, 3) := by decide +kernel
theorem dX11_happen_252 : decode cX11_happen 252 = .ok (.aload_n 0, 1) := by decide +kernel
theorem dX11_happen_253 : decode cX11_happen 253 = .ok (.getfield 218, 3) := by decide +kernel
theorem dX11_happen_256 : decode cX11_happen 256 = .ok (.ifCond .lt 10, 3) := by decide +kernel
theorem dX11_happen_259 : decode cX11_happen 259 = .ok (.aload_n 0, 1) := by decide +kernel
theorem dX11_happen_260 : decode cX11_happen 260 = .ok (.getfield 297, 3) := by decide +kernel
theorem dX11_happen_263 : decode cX11_happen 263 = .ok (.goto 4, 3) := by decide +kernel
theorem dX11_happen_266 : decode cX11_happen 266 = .ok (.iconst 0, 1) := by decide +kernel
theorem dX11_happen_267 : decode cX11_happen 267 = .ok (.iastore, 1) := by decide +kernel
theorem dX11_happen_268 : decode cX11_happen 268 = .ok (.aload_n 0, 1) := by decide +kernel
theorem dX11_happen_269 : decode cX11_happen 269 = .ok (.getfield 78, 3) := by decide +kernel
theorem dX11_happen_272 : decode cX11_happen 272 = .ok (.ifCond .le 11, 3) := by decide +kernel
theorem dX11_happen_275 : decode cX11_happen 275 = .ok (.aload_n 0, 1) := by decide +kernel
theorem dX11_happen_276 : decode cX11_happen 276 = .ok (.iconst 1, 1) := by decide +kernel
theorem dX11_happen_277 : decode cX11_happen 277 = .ok (.invokevirtual 334, 3) := by decide +kernel
theorem dX11_happen_280 : decode cX11_happen 280 = .ok (.goto 4, 3) := by decide +kernel
theorem dX11_happen_283 : decode cX11_happen 283 = .ok (.iconst 0, 1) := by decide +kernel
theorem dX11_happen_284 : decode cX11_happen 284 = .ok (.istore 4, 2) := by decide +kernel
theorem dX11_happen_286 : decode cX11_happen 286 = .ok (.aload_n 0, 1) := by decide +kernel
theorem dX11_happen_287 : decode cX11_happen 287 = .ok (.aload_n 0, 1) := by decide +kernel
theorem dX11_happen_288 : decode cX11_happen 288 = .ok (.getfield 340, 3) := by decide +kernel
theorem dX11_happen_291 : decode cX11_happen 291 = .ok (.iload 4, 2) := by decide +kernel
theorem dX11_happen_293 : decode cX11_happen 293 = .ok (.isub, 1) := by decide +kernel
theorem dX11_happen_294 : decode cX11_happen 294 = .ok (.aload_n 0, 1) := by decide +kernel
theorem dX11_happen_295 : decode cX11_happen 295 = .ok (.getfield 87, 3) := by decide +kernel
theorem dX11_happen_298 : decode cX11_happen 298 = .ok (.if_icmp .le 13, 3) := by decide +kernel
theorem dX11_happen_301 : decode cX11_happen 301 = .ok (.aload_n 0, 1) := by decide +kernel
theorem dX11_happen_302 : decode cX11_happen 302 = .ok (.getfield 340, 3) := by decide +kernel
theorem dX11_happen_305 : decode cX11_happen 305 = .ok (.iload 4, 2) := by decide +kernel
theorem dX11_happen_307 : decode cX11_happen 307 = .ok (.isub, 1) := by decide +kernel
theorem dX11_happen_308 : decode cX11_happen 308 = .ok (.goto 7, 3) := by decide +kernel
theorem dX11_happen_311 : decode cX11_happen 311 = .ok (.aload_n 0, 1) := by decide +kernel
theorem dX11_happen_312 : decode cX11_happen 312 = .ok (.getfield 87, 3) := by decide +kernel
theorem dX11_happen_315 : decode cX11_happen 315 = .ok (.putfield 87, 3) := by decide +kernel
theorem dX11_happen_318 : decode cX11_happen 318 = .ok (.aload_n 0, 1) := by decide +kernel
theorem dX11_happen_319 : decode cX11_happen 319 = .ok (.dup, 1) := by decide +kernel
theorem dX11_happen_320 : decode cX11_happen 320 = .ok (.getfield 84, 3) := by decide +kernel
theorem dX11_happen_323 : decode cX11_happen 323 = .ok (.aload_n 0, 1) := by decide +kernel
theorem dX11_happen_324 : decode cX11_happen 324 = .ok (.getfield 78, 3) := by decide +kernel
theorem dX11_happen_327 : decode cX11_happen 327 = .ok (.ifCond .le 16, 3) := by decide +kernel
theorem dX11_happen_330 : decode cX11_happen 330 = .ok (.aload_n 0, 1) := by decide +kernel
theorem dX11_happen_331 : decode cX11_happen 331 = .ok (.getfield 340, 3) := by decide +kernel
theorem dX11_happen_334 : decode cX11_happen 334 = .ok (.iload 4, 2) := by decide +kernel
theorem dX11_happen_336 : decode cX11_happen 336 = .ok (.if_icmp .ne 7, 3) := by decide +kernel
theorem dX11_happen_339 : decode cX11_happen 339 = .ok (.iconst 1, 1) := by decide +kernel
theorem dX11_happen_340 : decode cX11_happen 340 = .ok (.goto 4, 3) := by decide +kernel
theorem dX11_happen_343 : decode cX11_happen 343 = .ok (.iconst 0, 1) := by decide +kernel
theorem dX11_happen_344 : decode cX11_happen 344 = .ok (.iadd, 1) := by decide +kernel
theorem dX11_happen_345 : decode cX11_happen 345 = .ok (.putfield 84, 3) := by decide +kernel
theorem dX11_happen_348 : decode cX11_happen 348 = .ok (.aload_n 0, 1) := by decide +kernel
theorem dX11_happen_349 : decode cX11_happen 349 = .ok (.getfield 33, 3) := by decide +kernel
theorem dX11_happen_352 : decode cX11_happen 352 = .ok (.aload_n 0, 1) := by decide +kernel
theorem dX11_happen_353 : decode cX11_happen 353 = .ok (.getfield 78, 3) := by decide +kernel
theorem dX11_happen_356 : decode cX11_happen 356 = .ok (.bipush 7, 2) := by decide +kernel
theorem dX11_happen_358 : decode cX11_happen 358 = .ok (.iand, 1) := by decide +kernel
theorem dX11_happen_359 : decode cX11_happen 359 = .ok (.aload_n 0, 1) := by decide +kernel
theorem dX11_happen_360 : decode cX11_happen 360 = .ok (.getfield 337, 3) := by decide +kernel
theorem dX11_happen_363 : decode cX11_happen 363 = .ok (.iastore, 1) := by decide +kernel
theorem dX11_happen_364 : decode cX11_happen 364 = .ok (.aload_n 0, 1) := by decide +kernel
theorem dX11_happen_365 : decode cX11_happen 365 = .ok (.getfield 36, 3) := by decide +kernel
theorem dX11_happen_368 : decode cX11_happen 368 = .ok (.aload_n 0, 1) := by decide +kernel
theorem dX11_happen_369 : decode cX11_happen 369 = .ok (.getfield 78, 3) := by decide +kernel
theorem dX11_happen_372 : decode cX11_happen 372 = .ok (.bipush 7, 2) := by decide +kernel
theorem dX11_happen_374 : decode cX11_happen 374 = .ok (.iand, 1) := by decide +kernel
theorem dX11_happen_375 : decode cX11_happen 375 = .ok (.aload_n 0, 1) := by decide +kernel
theorem dX11_happen_376 : decode cX11_happen 376 = .ok (.getfield 340, 3) := by decide +kernel
theorem dX11_happen_379 : decode cX11_happen 379 = .ok (.iastore, 1) := by decide +kernel
theorem dX11_happen_380 : decode cX11_happen 380 = .ok (.aload_n 0, 1) := by decide +kernel
theorem dX11_happen_381 : decode cX11_happen 381 = .ok (.iload_n 2, 1) := by decide +kernel
theorem dX11_happen_382 : decode cX11_happen 382 = .ok (.ifCond .eq 20, 3) := by decide +kernel
theorem dX11_happen_385 : decode cX11_happen 385 = .ok (.aload_n 0, 1) := by decide +kernel
theorem dX11_happen_386 : decode cX11_happen 386 = .ok (.getfield 169, 3) := by decide +kernel
theorem dX11_happen_389 : decode cX11_happen 389 = .ok (.invokestatic 151, 3) := by decide +kernel
theorem dX11_happen_392 : decode cX11_happen 392 = .ok (.ifCond .eq 10, 3) := by decide +kernel
theorem dX11_happen_395 : decode cX11_happen 395 = .ok (.aload_n 0, 1) := by decide +kernel
theorem dX11_happen_396 : decode cX11_happen 396 = .ok (.getfield 337, 3) := by decide +kernel
theorem dX11_happen_399 : decode cX11_happen 399 = .ok (.goto 7, 3) := by decide +kernel
theorem dX11_happen_402 : decode cX11_happen 402 = .ok (.aload_n 0, 1) := by decide +kernel
theorem dX11_happen_403 : decode cX11_happen 403 = .ok (.getfield 105, 3) := by decide +kernel
theorem dX11_happen_406 : decode cX11_happen 406 = .ok (.putfield 105, 3) := by decide +kernel
theorem dX11_happen_409 : decode cX11_happen 409 = .ok (.aload_n 0, 1) := by decide +kernel
theorem dX11_happen_410 : decode cX11_happen 410 = .ok (.getfield 197, 3) := by decide +kernel
theorem dX11_happen_413 : decode cX11_happen 413 = .ok (.ifCond .ne 164, 3) := by decide +kernel
theorem dX11_happen_416 : decode cX11_happen 416 = .ok (.iload_n 2, 1) := by decide +kernel
theorem dX11_happen_417 : decode cX11_happen 417 = .ok (.ifCond .eq 160, 3) := by decide +kernel
theorem dX11_happen_420 : decode cX11_happen 420 = .ok (.aload_n 0, 1) := by decide +kernel
theorem dX11_happen_421 : decode cX11_happen 421 = .ok (.getfield 169, 3) := by decide +kernel
theorem dX11_happen_424 : decode cX11_happen 424 = .ok (.invokestatic 154, 3) := by decide +kernel
theorem dX11_happen_427 : decode cX11_happen 427 = .ok (.ifCond .eq 7, 3) := by decide +kernel
theorem dX11_happen_430 : decode cX11_happen 430 = .ok (.iconst 2, 1) := by decide +kernel
theorem dX11_happen_431 : decode cX11_happen 431 = .ok (.goto 33, 3) := by decide +kernel
theorem dX11_happen_434 : decode cX11_happen 434 = .ok (.aload_n 0, 1) := by decide +kernel
theorem dX11_happen_435 : decode cX11_happen 435 = .ok (.getfield 169, 3) := by decide +kernel
theorem dX11_happen_438 : decode cX11_happen 438 = .ok (.invokestatic 148, 3) := by decide +kernel
theorem dX11_happen_441 : decode cX11_happen 441 = .ok (.ifCond .eq 7, 3) := by decide +kernel
theorem dX11_happen_444 : decode cX11_happen 444 = .ok (.iconst 3, 1) := by decide +kernel
theorem dX11_happen_445 : decode cX11_happen 445 = .ok (.goto 19, 3) := by decide +kernel
theorem dX11_happen_448 : decode cX11_happen 448 = .ok (.aload_n 0, 1) := by decide +kernel
theorem dX11_happen_449 : decode cX11_happen 449 = .ok (.getfield 169, 3) := by decide +kernel
theorem dX11_happen_452 : decode cX11_happen 452 = .ok (.invokestatic 151, 3) := by decide +kernel
theorem dX11_happen_455 : decode cX11_happen 455 = .ok (.ifCond .eq 8, 3) := by decide +kernel
theorem dX11_happen_458 : decode cX11_happen 458 = .ok (.bipush 18, 2) := by decide +kernel
theorem dX11_happen_460 : decode cX11_happen 460 = .ok (.goto 4, 3) := by decide +kernel
theorem dX11_happen_463 : decode cX11_happen 463 = .ok (.iconst 1, 1) := by decide +kernel
theorem dX11_happen_464 : decode cX11_happen 464 = .ok (.istore 5, 2) := by decide +kernel
theorem dX11_happen_466 : decode cX11_happen 466 = .ok (.aload_n 0, 1) := by decide +kernel
theorem dX11_happen_467 : decode cX11_happen 467 = .ok (.getfield 169, 3) := by decide +kernel
theorem dX11_happen_470 : decode cX11_happen 470 = .ok (.invokestatic 178, 3) := by decide +kernel
theorem dX11_happen_473 : decode cX11_happen 473 = .ok (.ifCond .le 22, 3) := by decide +kernel
theorem dX11_happen_476 : decode cX11_happen 476 = .ok (.aload_n 0, 1) := by decide +kernel
theorem dX11_happen_477 : decode cX11_happen 477 = .ok (.getfield 39, 3) := by decide +kernel
theorem dX11_happen_480 : decode cX11_happen 480 = .ok (.aload_n 0, 1) := by decide +kernel
theorem dX11_happen_481 : decode cX11_happen 481 = .ok (.getfield 169, 3) := by decide +kernel
theorem dX11_happen_484 : decode cX11_happen 484 = .ok (.invokestatic 178, 3) := by decide +kernel
theorem dX11_happen_487 : decode cX11_happen 487 = .ok (.aload_n 0, 1) := by decide +kernel
theorem dX11_happen_488 : decode cX11_happen 488 = .ok (.getfield 337, 3) := by decide +kernel
theorem dX11_happen_491 : decode cX11_happen 491 = .ok (.iload 5, 2) := by decide +kernel
theorem dX11_happen_493 : decode cX11_happen 493 = .ok (.iadd, 1) := by decide +kernel
theorem dX11_happen_494 : decode cX11_happen 494 = .ok (.iastore, 1) := by decide +kernel
theorem dX11_happen_495 : decode cX11_happen 495 = .ok (.aload_n 0, 1) := by decide +kernel
theorem dX11_happen_496 : decode cX11_happen 496 = .ok (.aload_n 0, 1) := by decide +kernel
theorem dX11_happen_497 : decode cX11_happen 497 = .ok (.getfield 169, 3) := by decide +kernel
theorem dX11_happen_500 : decode cX11_happen 500 = .ok (.invokestatic 185, 3) := by decide +kernel
theorem dX11_happen_503 : decode cX11_happen 503 = .ok (.ifCond .eq 12, 3) := by decide +kernel
theorem dX11_happen_506 : decode cX11_happen 506 = .ok (.aload_n 0, 1) := by decide +kernel
theorem dX11_happen_507 : decode cX11_happen 507 = .ok (.getfield 337, 3) := by decide +kernel
theorem dX11_happen_510 : decode cX11_happen 510 = .ok (.iconst 1, 1) := by decide +kernel
theorem dX11_happen_511 : decode cX11_happen 511 = .ok (.iadd, 1) := by decide +kernel
theorem dX11_happen_512 : decode cX11_happen 512 = .ok (.goto 7, 3) := by decide +kernel
theorem dX11_happen_515 : decode cX11_happen 515 = .ok (.aload_n 0, 1) := by decide +kernel
theorem dX11_happen_516 : decode cX11_happen 516 = .ok (.getfield 96, 3) := by decide +kernel
theorem dX11_happen_519 : decode cX11_happen 519 = .ok (.putfield 96, 3) := by decide +kernel
theorem dX11_happen_522 : decode cX11_happen 522 = .ok (.aload_n 0, 1) := by decide +kernel
theorem dX11_happen_523 : decode cX11_happen 523 = .ok (.aload_n 0, 1) := by decide +kernel
theorem dX11_happen_524 : decode cX11_happen 524 = .ok (.getfield 169, 3) := by decide +kernel
theorem dX11_happen_527 : decode cX11_happen 527 = .ok (.invokestatic 191, 3) := by decide +kernel
theorem dX11_happen_530 : decode cX11_happen 530 = .ok (.ifCond .eq 13, 3) := by decide +kernel
theorem dX11_happen_533 : decode cX11_happen 533 = .ok (.aload_n 0, 1) := by decide +kernel
theorem dX11_happen_534 : decode cX11_happen 534 = .ok (.getfield 337, 3) := by decide +kernel
theorem dX11_happen_537 : decode cX11_happen 537 = .ok (.iload 5, 2) := by decide +kernel
theorem dX11_happen_539 : decode cX11_happen 539 = .ok (.iadd, 1) := by decide +kernel
theorem dX11_happen_540 : decode cX11_happen 540 = .ok (.goto 7, 3) := by decide +kernel
theorem dX11_happen_543 : decode cX11_happen 543 = .ok (.aload_n 0, 1) := by decide +kernel
theorem dX11_happen_544 : decode cX11_happen 544 = .ok (.getfield 99, 3) := by decide +kernel
theorem dX11_happen_547 : decode cX11_happen 547 = .ok (.putfield 99, 3) := by decide +kernel
theorem dX11_happen_550 : decode cX11_happen 550 = .ok (.aload_n 0, 1) := by decide +kernel
theorem dX11_happen_551 : decode cX11_happen 551 = .ok (.aload_n 0, 1) := by decide +kernel
theorem dX11_happen_552 : decode cX11_happen 552 = .ok (.getfield 169, 3) := by decide +kernel
theorem dX11_happen_555 : decode cX11_happen 555 = .ok (.invokestatic 145, 3) := by decide +kernel
theorem dX11_happen_558 : decode cX11_happen 558 = .ok (.ifCond .eq 12, 3) := by decide +kernel
theorem dX11_happen_561 : decode cX11_happen 561 = .ok (.aload_n 0, 1) := by decide +kernel
theorem dX11_happen_562 : decode cX11_happen 562 = .ok (.getfield 337, 3) := by decide +kernel
theorem dX11_happen_565 : decode cX11_happen 565 = .ok (.iconst 3, 1) := by decide +kernel
theorem dX11_happen_566 : decode cX11_happen 566 = .ok (.iadd, 1) := by decide +kernel
theorem dX11_happen_567 : decode cX11_happen 567 = .ok (.goto 7, 3) := by decide +kernel
theorem dX11_happen_570 : decode cX11_happen 570 = .ok (.aload_n 0, 1) := by decide +kernel
theorem dX11_happen_571 : decode cX11_happen 571 = .ok (.getfield 102, 3) := by decide +kernel
theorem dX11_happen_574 : decode cX11_happen 574 = .ok (.putfield 102, 3) := by decide +kernel
theorem dX11_happen_577 : decode cX11_happen 577 = .ok (.iload_n 1, 1) := by decide +kernel
theorem dX11_happen_578 : decode cX11_happen 578 = .ok (.ifCond .eq 17, 3) := by decide +kernel
theorem dX11_happen_581 : decode cX11_happen 581 = .ok (.aload_n 0, 1) := by decide +kernel
theorem dX11_happen_582 : decode cX11_happen 582 = .ok (.getfield 169, 3) := by decide +kernel
theorem dX11_happen_585 : decode cX11_happen 585 = .ok (.invokestatic 166, 3) := by decide +kernel
theorem dX11_happen_588 : decode cX11_happen 588 = .ok (.ifCond .eq 7, 3) := by decide +kernel
theorem dX11_happen_591 : decode cX11_happen 591 = .ok (.iconst 1, 1) := by decide +kernel
theorem dX11_happen_592 : decode cX11_happen 592 = .ok (.goto 4, 3) := by decide +kernel
theorem dX11_happen_595 : decode cX11_happen 595 = .ok (.iconst 0, 1) := by decide +kernel
theorem dX11_happen_596 : decode cX11_happen 596 = .ok (.istore 5, 2) := by decide +kernel
theorem dX11_happen_598 : decode cX11_happen 598 = .ok (.aload_n 0, 1) := by decide +kernel
theorem dX11_happen_599 : decode cX11_happen 599 = .ok (.getfield 197, 3) := by decide +kernel
theorem dX11_happen_602 : decode cX11_happen 602 = .ok (.ifCond .ne 32, 3) := by decide +kernel
theorem dX11_happen_605 : decode cX11_happen 605 = .ok (.aload_n 0, 1) := by decide +kernel
theorem dX11_happen_606 : decode cX11_happen 606 = .ok (.getfield 59, 3) := by decide +kernel
theorem dX11_happen_609 : decode cX11_happen 609 = .ok (.ifCond .eq 25, 3) := by decide +kernel
theorem dX11_happen_612 : decode cX11_happen 612 = .ok (.aload_n 0, 1) := by decide +kernel
theorem dX11_happen_613 : decode cX11_happen 613 = .ok (.getfield 343, 3) := by decide +kernel
theorem dX11_happen_616 : decode cX11_happen 616 = .ok (.ifCond .eq 14, 3) := by decide +kernel
theorem dX11_happen_619 : decode cX11_happen 619 = .ok (.aload_n 0, 1) := by decide +kernel
theorem dX11_happen_620 : decode cX11_happen 620 = .ok (.getfield 346, 3) := by decide +kernel
theorem dX11_happen_623 : decode cX11_happen 623 = .ok (.aload_n 0, 1) := by decide +kernel
theorem dX11_happen_624 : decode cX11_happen 624 = .ok (.getfield 258, 3) := by decide +kernel
theorem dX11_happen_627 : decode cX11_happen 627 = .ok (.if_icmp .eq 7, 3) := by decide +kernel
theorem dX11_happen_630 : decode cX11_happen 630 = .ok (.iconst 1, 1) := by decide +kernel
theorem dX11_happen_631 : decode cX11_happen 631 = .ok (.goto 4, 3) := by decide +kernel
theorem dX11_happen_634 : decode cX11_happen 634 = .ok (.iconst 0, 1) := by decide +kernel
theorem dX11_happen_635 : decode cX11_happen 635 = .ok (.istore 6, 2) := by decide +kernel
theorem dX11_happen_637 : decode cX11_happen 637 = .ok (.aload_n 0, 1) := by decide +kernel
theorem dX11_happen_638 : decode cX11_happen 638 = .ok (.getfield 78, 3) := by decide +kernel
theorem dX11_happen_641 : decode cX11_happen 641 = .ok (.ifCond .le 13, 3) := by decide +kernel
theorem dX11_happen_644 : decode cX11_happen 644 = .ok (.aload_n 0, 1) := by decide +kernel
theorem dX11_happen_645 : decode cX11_happen 645 = .ok (.iconst 1, 1) := by decide +kernel
theorem dX11_happen_646 : decode cX11_happen 646 = .ok (.invokevirtual 321, 3) := by decide +kernel
theorem dX11_happen_649 : decode cX11_happen 649 = .ok (.iconst 1, 1) := by decide +kernel
theorem dX11_happen_650 : decode cX11_happen 650 = .ok (.iadd, 1) := by decide +kernel
theorem dX11_happen_651 : decode cX11_happen 651 = .ok (.goto 4, 3) := by decide +kernel
theorem dX11_happen_654 : decode cX11_happen 654 = .ok (.iconst 0, 1) := by decide +kernel
theorem dX11_happen_655 : decode cX11_happen 655 = .ok (.istore 7, 2) := by decide +kernel
theorem dX11_happen_657 : decode cX11_happen 657 = .ok (.aload_n 0, 1) := by decide +kernel
theorem dX11_happen_658 : decode cX11_happen 658 = .ok (.aload_n 0, 1) := by decide +kernel
theorem dX11_happen_659 : decode cX11_happen 659 = .ok (.getfield 197, 3) := by decide +kernel
theorem dX11_happen_662 : decode cX11_happen 662 = .ok (.ifCond .gt 13, 3) := by decide +kernel
theorem dX11_happen_665 : decode cX11_happen 665 = .ok (.iload 5, 2) := by decide +kernel
theorem dX11_happen_667 : decode cX11_happen 667 = .ok (.ifCond .ne 8, 3) := by decide +kernel
theorem dX11_happen_670 : decode cX11_happen 670 = .ok (.iload 6, 2) := by decide +kernel
theorem dX11_happen_672 : decode cX11_happen 672 = .ok (.ifCond .eq 7, 3) := by decide +kernel
theorem dX11_happen_675 : decode cX11_happen 675 = .ok (.iconst 1, 1) := by decide +kernel
theorem dX11_happen_676 : decode cX11_happen 676 = .ok (.goto 4, 3) := by decide +kernel
theorem dX11_happen_679 : decode cX11_happen 679 = .ok (.iconst 0, 1) := by decide +kernel
theorem dX11_happen_680 : decode cX11_happen 680 = .ok (.putfield 90, 3) := by decide +kernel
theorem dX11_happen_683 : decode cX11_happen 683 = .ok (.aload_n 0, 1) := by decide +kernel
theorem dX11_happen_684 : decode cX11_happen 684 = .ok (.aload_n 0, 1) := by decide +kernel
theorem dX11_happen_685 : decode cX11_happen 685 = .ok (.getfield 197, 3) := by decide +kernel
theorem dX11_happen_688 : decode cX11_happen 688 = .ok (.ifCond .gt 8, 3) := by decide +kernel
theorem dX11_happen_691 : decode cX11_happen 691 = .ok (.iload 5, 2) := by decide +kernel
theorem dX11_happen_693 : decode cX11_happen 693 = .ok (.ifCond .eq 10, 3) := by decide +kernel
theorem dX11_happen_696 : decode cX11_happen 696 = .ok (.aload_n 0, 1) := by decide +kernel
theorem dX11_happen_697 : decode cX11_happen 697 = .ok (.getfield 340, 3) := by decide +kernel
theorem dX11_happen_700 : decode cX11_happen 700 = .ok (.goto 14, 3) := by decide +kernel
theorem dX11_happen_703 : decode cX11_happen 703 = .ok (.iload 6, 2) := by decide +kernel
theorem dX11_happen_705 : decode cX11_happen 705 = .ok (.ifCond .eq 8, 3) := by decide +kernel
theorem dX11_happen_708 : decode cX11_happen 708 = .ok (.iload 7, 2) := by decide +kernel
theorem dX11_happen_710 : decode cX11_happen 710 = .ok (.goto 4, 3) := by decide +kernel
theorem dX11_happen_713 : decode cX11_happen 713 = .ok (.iconst 0, 1) := by decide +kernel
theorem dX11_happen_714 : decode cX11_happen 714 = .ok (.putfield 327, 3) := by decide +kernel
theorem dX11_happen_717 : decode cX11_happen 717 = .ok (.aload_n 0, 1) := by decide +kernel
theorem dX11_happen_718 : decode cX11_happen 718 = .ok (.aload_n 0, 1) := by decide +kernel
theorem dX11_happen_719 : decode cX11_happen 719 = .ok (.getfield 59, 3) := by decide +kernel
theorem dX11_happen_722 : decode cX11_happen 722 = .ok (.ifCond .eq 21, 3) := by decide +kernel
theorem dX11_happen_725 : decode cX11_happen 725 = .ok (.aload_n 0, 1) := by decide +kernel
theorem dX11_happen_726 : decode cX11_happen 726 = .ok (.getfield 343, 3) := by decide +kernel
theorem dX11_happen_729 : decode cX11_happen 729 = .ok (.ifCond .eq 14, 3) := by decide +kernel
theorem dX11_happen_732 : decode cX11_happen 732 = .ok (.aload_n 0, 1) := by decide +kernel
theorem dX11_happen_733 : decode cX11_happen 733 = .ok (.getfield 346, 3) := by decide +kernel
theorem dX11_happen_736 : decode cX11_happen 736 = .ok (.ifCond .eq 7, 3) := by decide +kernel
theorem dX11_happen_739 : decode cX11_happen 739 = .ok (.iconst 1, 1) := by decide +kernel
theorem dX11_happen_740 : decode cX11_happen 740 = .ok (.goto 4, 3) := by decide +kernel
theorem dX11_happen_743 : decode cX11_happen 743 = .ok (.iconst 0, 1) := by decide +kernel
theorem dX11_happen_744 : decode cX11_happen 744 = .ok (.putfield 309, 3) := by decide +kernel
theorem dX11_happen_747 : decode cX11_happen 747 = .ok (.aload_n 0, 1) := by decide +kernel
theorem dX11_happen_748 : decode cX11_happen 748 = .ok (.aload_n 0, 1) := by decide +kernel
theorem dX11_happen_749 : decode cX11_happen 749 = .ok (.getfield 169, 3) := by decide +kernel
theorem dX11_happen_752 : decode cX11_happen 752 = .ok (.putfield 163, 3) := by decide +kernel
theorem dX11_happen_755 : decode cX11_happen 755 = .ok (.aload_n 0, 1) := by decide +kernel
theorem dX11_happen_756 : decode cX11_happen 756 = .ok (.iload_n 1, 1) := by decide +kernel
theorem dX11_happen_757 : decode cX11_happen 757 = .ok (.putfield 160, 3) := by decide +kernel
theorem dX11_happen_760 : decode cX11_happen 760 = .ok (.aload_n 0, 1) := by decide +kernel
theorem dX11_happen_761 : decode cX11_happen 761 = .ok (.aload_n 0, 1) := by decide +kernel
theorem dX11_happen_762 : decode cX11_happen 762 = .ok (.getfield 56, 3) := by decide +kernel
theorem dX11_happen_765 : decode cX11_happen 765 = .ok (.putfield 306, 3) := by decide +kernel
theorem dX11_happen_768 : decode cX11_happen 768 = .ok (.aload_n 0, 1) := by decide +kernel
theorem dX11_happen_769 : decode cX11_happen 769 = .ok (.aload_n 0, 1) := by decide +kernel
theorem dX11_happen_770 : decode cX11_happen 770 = .ok (.getfield 318, 3) := by decide +kernel
theorem dX11_happen_773 : decode cX11_happen 773 = .ok (.putfield 315, 3) := by decide +kernel
theorem dX11_happen_776 : decode cX11_happen 776 = .ok (.aload_n 0, 1) := by decide +kernel
theorem dX11_happen_777 : decode cX11_happen 777 = .ok (.aload_n 0, 1) := by decide +kernel
theorem dX11_happen_778 : decode cX11_happen 778 = .ok (.getfield 312, 3) := by decide +kernel
theorem dX11_happen_781 : decode cX11_happen 781 = .ok (.putfield 93, 3) := by decide +kernel
theorem dX11_happen_784 : decode cX11_happen 784 = .ok (.aload_n 0, 1) := by decide +kernel
theorem dX11_happen_785 : decode cX11_happen 785 = .ok (.dup, 1) := by decide +kernel
theorem dX11_happen_786 : decode cX11_happen 786 = .ok (.getfield 78, 3) := by decide +kernel
theorem dX11_happen_789 : decode cX11_happen 789 = .ok (.iconst 1, 1) := by decide +kernel
theorem dX11_happen_790 : decode cX11_happen 790 = .ok (.iadd, 1) := by decide +kernel
theorem dX11_happen_791 : decode cX11_happen 791 = .ok (.putfield 78, 3) := by decide +kernel
theorem dX11_happen_794 : decode cX11_happen 794 = .ok (.aload_n 0, 1) := by decide +kernel
theorem dX11_happen_795 : decode cX11_happen 795 = .ok (.getfield 197, 3) := by decide +kernel
theorem dX11_happen_798 : decode cX11_happen 798 = .ok (.ifCond .le 20, 3) := by decide +kernel
theorem dX11_happen_801 : decode cX11_happen 801 = .ok (.aload_n 0, 1) := by decide +kernel
theorem dX11_happen_802 : decode cX11_happen 802 = .ok (.dup, 1) := by decide +kernel
theorem dX11_happen_803 : decode cX11_happen 803 = .ok (.getfield 81, 3) := by decide +kernel
theorem dX11_happen_806 : decode cX11_happen 806 = .ok (.iconst 1, 1) := by decide +kernel
theorem dX11_happen_807 : decode cX11_happen 807 = .ok (.iadd, 1) := by decide +kernel
theorem dX11_happen_808 : decode cX11_happen 808 = .ok (.putfield 81, 3) := by decide +kernel
theorem dX11_happen_811 : decode cX11_happen 811 = .ok (.aload_n 0, 1) := by decide +kernel
theorem dX11_happen_812 : decode cX11_happen 812 = .ok (.invokevirtual 349, 3) := by decide +kernel
theorem dX11_happen_815 : decode cX11_happen 815 = .ok (.goto 7, 3) := by decide +kernel
theorem dX11_happen_818 : decode cX11_happen 818 = .ok (.aload_n 0, 1) := by decide +kernel
theorem dX11_happen_819 : decode cX11_happen 819 = .ok (.invokevirtual 352, 3) := by decide +kernel
theorem dX11_happen_822 : decode cX11_happen 822 = .ok (.return_, 1) := by decide +kernel
set_option maxRecDepth 1000000 in
theorem ggX11_except_X11_leave : GoodIn wsX11_except wsX11_leave := goodIn_r _ [12, 4, 5, 13, 14, 15, 16, 17, 18, 19, 20, 21, 22, 23, 24, 25, 26, 27, 28, 29, 30, 31, 32, 33, 34, 35, 36, 37, 38, 39, 40, 41, 42, 43, 44, 45, 46, 47, 48, 49, 50, 51, 52, 53, 54, 55, 56, 57, 58, 59, 60, 61, 62, 63, 64, 65, 66, 67, 68, 69, 70, 71, 72, 73] rfl (by decide +kernel)
set_option maxRecDepth 1000000 in
theorem gX11_except_X11_leave : GoodIn wsX11_except (wsV RX11 355 RX11 yX11_leave wsX11_leave) := goodIn_app (goodIn_of _ (by decide +kernel)) ggX11_except_X11_leave
theorem dX11_except_0 : decode cX11_except 0 = .ok (.aload_n 0, 1) := by decide +kernel
theorem dX11_except_1 : decode cX11_except 1 = .ok (.getfield 200, 3) := by decide +kernel
theorem dX11_except_4 : decode cX11_except 4 = .ok (.ifCond .le 13, 3) := by decide +kernel
theorem dX11_except_7 : decode cX11_except 7 = .ok (.aload_n 0, 1) := by decide +kernel
theorem dX11_except_8 : decode cX11_except 8 = .ok (.getfield 18, 3) := by decide +kernel
theorem dX11_except_11 : decode cX11_except 11 = .ok (.iconst 3, 1) := by decide +kernel
theorem dX11_except_12 : decode cX11_except 12 = .ok (.aload_n 0, 1) := by decide +kernel
theorem dX11_except_13 : decode cX11_except 13 = .ok (.getfield 240, 3) := by decide +kernel
theorem dX11_except_16 : decode cX11_except 16 = .ok (.iastore, 1) := by decide +kernel
theorem dX11_except_17 : decode cX11_except 17 = .ok (.aload_n 0, 1) := by decide +kernel
theorem dX11_except_18 : decode cX11_except 18 = .ok (.getfield 18, 3) := by decide +kernel
theorem dX11_except_21 : decode cX11_except 21 = .ok (.iconst 2, 1) := by decide +kernel
theorem dX11_except_22 : decode cX11_except 22 = .ok (.aload_n 0, 1) := by decide +kernel
theorem dX11_except_23 : decode cX11_except 23 = .ok (.getfield 18, 3) := by decide +kernel
theorem dX11_except_26 : decode cX11_except 26 = .ok (.iconst 0, 1) := by decide +kernel
theorem dX11_except_27 : decode cX11_except 27 = .ok (.iaload, 1) := by decide +kernel
theorem dX11_except_28 : decode cX11_except 28 = .ok (.iastore, 1) := by decide +kernel
theorem dX11_except_29 : decode cX11_except 29 = .ok (.aload_n 0, 1) := by decide +kernel
theorem dX11_except_30 : decode cX11_except 30 = .ok (.getfield 18, 3) := by decide +kernel
theorem dX11_except_33 : decode cX11_except 33 = .ok (.iconst 1, 1) := by decide +kernel
theorem dX11_except_34 : decode cX11_except 34 = .ok (.aload_n 0, 1) := by decide +kernel
theorem dX11_except_35 : decode cX11_except 35 = .ok (.getfield 59, 3) := by decide +kernel
theorem dX11_except_38 : decode cX11_except 38 = .ok (.ifCond .eq 10, 3) := by decide +kernel
theorem dX11_except_41 : decode cX11_except 41 = .ok (.aload_n 0, 1) := by decide +kernel
theorem dX11_except_42 : decode cX11_except 42 = .ok (.getfield 63, 3) := by decide +kernel
theorem dX11_except_45 : decode cX11_except 45 = .ok (.goto 25, 3) := by decide +kernel
theorem dX11_except_48 : decode cX11_except 48 = .ok (.aload_n 0, 1) := by decide +kernel
theorem dX11_except_49 : decode cX11_except 49 = .ok (.getfield 197, 3) := by decide +kernel
theorem dX11_except_52 : decode cX11_except 52 = .ok (.bipush 12, 2) := by decide +kernel
theorem dX11_except_54 : decode cX11_except 54 = .ok (.if_icmp .ne 12, 3) := by decide +kernel
theorem dX11_except_57 : decode cX11_except 57 = .ok (.aload_n 0, 1) := by decide +kernel
theorem dX11_except_58 : decode cX11_except 58 = .ok (.getfield 56, 3) := by decide +kernel
theorem dX11_except_61 : decode cX11_except 61 = .ok (.iconst 4, 1) := by decide +kernel
theorem dX11_except_62 : decode cX11_except 62 = .ok (.iadd, 1) := by decide +kernel
theorem dX11_except_63 : decode cX11_except 63 = .ok (.goto 7, 3) := by decide +kernel
theorem dX11_except_66 : decode cX11_except 66 = .ok (.aload_n 0, 1) := by decide +kernel
theorem dX11_except_67 : decode cX11_except 67 = .ok (.getfield 56, 3) := by decide +kernel
theorem dX11_except_70 : decode cX11_except 70 = .ok (.iastore, 1) := by decide +kernel
theorem dX11_except_71 : decode cX11_except 71 = .ok (.aload_n 0, 1) := by decide +kernel
theorem dX11_except_72 : decode cX11_except 72 = .ok (.getfield 18, 3) := by decide +kernel
theorem dX11_except_75 : decode cX11_except 75 = .ok (.iconst 0, 1) := by decide +kernel
theorem dX11_except_76 : decode cX11_except 76 = .ok (.aload_n 0, 1) := by decide +kernel
theorem dX11_except_77 : decode cX11_except 77 = .ok (.getfield 18, 3) := by decide +kernel
theorem dX11_except_80 : decode cX11_except 80 = .ok (.iconst 0, 1) := by decide +kernel
theorem dX11_except_81 : decode cX11_except 81 = .ok (.iaload, 1) := by decide +kernel
theorem dX11_except_82 : decode cX11_except 82 = .ok (.sipush 416, 3) := by decide +kernel
theorem dX11_except_85 : decode cX11_except 85 = .ok (.iand, 1) := by decide +kernel
theorem dX11_except_86 : decode cX11_except 86 = .ok (.iconst 1, 1) := by decide +kernel
theorem dX11_except_87 : decode cX11_except 87 = .ok (.ior, 1) := by decide +kernel
theorem dX11_except_88 : decode cX11_except 88 = .ok (.aload_n 0, 1) := by decide +kernel
theorem dX11_except_89 : decode cX11_except 89 = .ok (.getfield 59, 3) := by decide +kernel
theorem dX11_except_92 : decode cX11_except 92 = .ok (.ifCond .eq 8, 3) := by decide +kernel
theorem dX11_except_95 : decode cX11_except 95 = .ok (.bipush 64, 2) := by decide +kernel
theorem dX11_except_97 : decode cX11_except 97 = .ok (.goto 4, 3) := by decide +kernel
theorem dX11_except_100 : decode cX11_except 100 = .ok (.iconst 0, 1) := by decide +kernel
theorem dX11_except_101 : decode cX11_except 101 = .ok (.ior, 1) := by decide +kernel
theorem dX11_except_102 : decode cX11_except 102 = .ok (.iastore, 1) := by decide +kernel
theorem dX11_except_103 : decode cX11_except 103 = .ok (.aload_n 0, 1) := by decide +kernel
theorem dX11_except_104 : decode cX11_except 104 = .ok (.sipush 256, 3) := by decide +kernel
theorem dX11_except_107 : decode cX11_except 107 = .ok (.aload_n 0, 1) := by decide +kernel
theorem dX11_except_108 : decode cX11_except 108 = .ok (.getfield 197, 3) := by decide +kernel
theorem dX11_except_111 : decode cX11_except 111 = .ok (.imul, 1) := by decide +kernel
theorem dX11_except_112 : decode cX11_except 112 = .ok (.putfield 56, 3) := by decide +kernel
theorem dX11_except_115 : decode cX11_except 115 = .ok (.aload_n 0, 1) := by decide +kernel
theorem dX11_except_116 : decode cX11_except 116 = .ok (.invokevirtual 355, 3) := by decide +kernel
theorem dX11_except_119 : decode cX11_except 119 = .ok (.return_, 1) := by decide +kernel
theorem dX11_leave_0 : decode cX11_leave 0 = .ok (.aload_n 0, 1) := by decide +kernel
theorem dX11_leave_1 : decode cX11_leave 1 = .ok (.iconst 0, 1) := by decide +kernel
theorem dX11_leave_2 : decode cX11_leave 2 = .ok (.putfield 59, 3) := by decide +kernel
theorem dX11_leave_5 : decode cX11_leave 5 = .ok (.aload_n 0, 1) := by decide +kernel
theorem dX11_leave_6 : decode cX11_leave 6 = .ok (.iconst 0, 1) := by decide +kernel
theorem dX11_leave_7 : decode cX11_leave 7 = .ok (.putfield 63, 3) := by decide +kernel
theorem dX11_leave_10 : decode cX11_leave 10 = .ok (.aload_n 0, 1) := by decide +kernel
theorem dX11_leave_11 : decode cX11_leave 11 = .ok (.iconst 0, 1) := by decide +kernel
theorem dX11_leave_12 : decode cX11_leave 12 = .ok (.putfield 66, 3) := by decide +kernel
theorem dX11_leave_15 : decode cX11_leave 15 = .ok (.return_, 1) := by decide +kernel
set_option maxRecDepth 1000000 in
theorem ggX11_retire_X11_put : GoodIn wsX11_retire wsX11_put := goodIn_r _ [33, 34, 65, 66, 67, 68, 69, 70, 71, 72, 73, 74, 75, 76, 77, 78, 79, 80, 81, 82, 83, 84, 85, 86, 87, 88, 89, 90, 91, 92, 93, 94, 95, 96, 97, 98, 99, 100, 101, 102, 103, 104, 105, 106, 107, 108, 109, 110, 111, 112, 113, 114, 115, 116, 117, 118, 119, 120, 121, 122, 123, 124] rfl (by decide +kernel)
set_option maxRecDepth 1000000 in
theorem gX11_retire_X11_put : GoodIn wsX11_retire (wsV RX11 109 RX11 yX11_put wsX11_put) := goodIn_app (goodIn_of _ (by decide +kernel)) ggX11_retire_X11_put
set_option maxRecDepth 1000000 in
theorem ggX11_retire_X11_op : GoodIn wsX11_retire wsX11_op := goodIn_r _ [37] (by decide +kernel) (by decide +kernel)
set_option maxRecDepth 1000000 in
theorem gX11_retire_X11_op : GoodIn wsX11_retire (va_wsS RX11 138 yX11_op wsX11_op) := goodIn_app (goodIn_of _ (by decide +kernel)) ggX11_retire_X11_op
set_option maxRecDepth 1000000 in
theorem ggX11_retire_X11_writeSpecial : GoodIn wsX11_retire wsX11_writeSpecial := goodIn_r _ [41, 5, 10, 42, 43, 44, 26, 45, 46, 47, 48, 32, 49, 50, 65, 66, 67, 68, 69, 70, 71, 72, 73, 74, 75, 76, 77, 78, 79, 80, 81, 82, 83, 84, 85, 86, 87, 88, 89, 90, 91, 92, 93, 94, 95, 96, 97, 98, 99, 100, 101, 102, 103, 104, 105, 106, 107, 108, 109, 110, 111, 112, 113, 114, 115, 116, 117, 118, 119, 120, 121, 122, 123, 124] rfl (by decide +kernel)
set_option maxRecDepth 1000000 in
theorem gX11_retire_X11_writeSpecial : GoodIn wsX11_retire (wsV RX11 358 RX11 yX11_writeSpecial wsX11_writeSpecial) := goodIn_app (goodIn_of _ (by decide +kernel)) ggX11_retire_X11_writeSpecial
set_option maxRecDepth 1000000 in
theorem ggX11_retire_X11_leave : GoodIn wsX11_retire wsX11_leave := goodIn_r _ [54, 18, 20, 19, 65, 66, 67, 68, 69, 70, 71, 72, 73, 74, 75, 76, 77, 78, 79, 80, 81, 82, 83, 84, 85, 86, 87, 88, 89, 90, 91, 92, 93, 94, 95, 96, 97, 98, 99, 100, 101, 102, 103, 104, 105, 106, 107, 108, 109, 110, 111, 112, 113, 114, 115, 116, 117, 118, 119, 120, 121, 122, 123, 124] rfl (by decide +kernel)
set_option maxRecDepth 1000000 in
theorem gX11_retire_X11_leave : GoodIn wsX11_retire (wsV RX11 355 RX11 yX11_leave wsX11_leave) := goodIn_app (goodIn_of _ (by decide +kernel)) ggX11_retire_X11_leave
set_option maxRecDepth 1000000 in
theorem ggX11_retire_X11_isBranch : GoodIn wsX11_retire wsX11_isBranch := goodIn_r _ [57, 35, 36, 32, 37] (by decide +kernel) (by decide +kernel)
set_option maxRecDepth 1000000 in
theorem gX11_retire_X11_isBranch : GoodIn wsX11_retire (va_wsS RX11 172 yX11_isBranch wsX11_isBranch) := goodIn_app (goodIn_of _ (by decide +kernel)) ggX11_retire_X11_isBranch
set_option maxRecDepth 1000000 in
theorem ggX11_retire_X11_linesNow : GoodIn wsX11_retire wsX11_linesNow := goodIn_r _ [61, 62, 63, 25, 64, 65, 66, 67, 68, 69, 70, 71, 72, 73, 74, 75, 76, 77, 78, 79, 80, 81, 82, 83, 84, 85, 86, 87, 88, 89, 90, 91, 92, 93, 94, 95, 96, 97, 98, 99, 100, 101, 102, 103, 104, 105, 106, 107, 108, 109, 110, 111, 112, 113, 114, 115, 116, 117, 118, 119, 120, 121, 122, 123, 124] rfl (by decide +kernel)
set_option maxRecDepth 1000000 in
theorem gX11_retire_X11_linesNow : GoodIn wsX11_retire (wsV RX11 300 RX11 yX11_linesNow wsX11_linesNow) := goodIn_app (goodIn_of _ (by decide +kernel)) ggX11_retire_X11_linesNow
theorem dX11_retire_0 : decode cX11_retire 0 = .ok (.aload_n 0, 1) := by decide +kernel
theorem dX11_retire_1 : decode cX11_retire 1 = .ok (.getfield 203, 3) := by decide +kernel
theorem dX11_retire_4 : decode cX11_retire 4 = .ok (.ifCond .le 16, 3) := by decide +kernel
theorem dX11_retire_7 : decode cX11_retire 7 = .ok (.aload_n 0, 1) := by decide +kernel
theorem dX11_retire_8 : decode cX11_retire 8 = .ok (.getfield 14, 3) := by decide +kernel
theorem dX11_retire_11 : decode cX11_retire 11 = .ok (.aload_n 0, 1) := by decide +kernel
theorem dX11_retire_12 : decode cX11_retire 12 = .ok (.getfield 203, 3) := by decide +kernel
theorem dX11_retire_15 : decode cX11_retire 15 = .ok (.aload_n 0, 1) := by decide +kernel
theorem dX11_retire_16 : decode cX11_retire 16 = .ok (.getfield 240, 3) := by decide +kernel
theorem dX11_retire_19 : decode cX11_retire 19 = .ok (.iastore, 1) := by decide +kernel
theorem dX11_retire_20 : decode cX11_retire 20 = .ok (.aload_n 0, 1) := by decide +kernel
theorem dX11_retire_21 : decode cX11_retire 21 = .ok (.getfield 206, 3) := by decide +kernel
theorem dX11_retire_24 : decode cX11_retire 24 = .ok (.ifCond .lt 38, 3) := by decide +kernel
theorem dX11_retire_27 : decode cX11_retire 27 = .ok (.aload_n 0, 1) := by decide +kernel
theorem dX11_retire_28 : decode cX11_retire 28 = .ok (.getfield 18, 3) := by decide +kernel
theorem dX11_retire_31 : decode cX11_retire 31 = .ok (.iconst 0, 1) := by decide +kernel
theorem dX11_retire_32 : decode cX11_retire 32 = .ok (.aload_n 0, 1) := by decide +kernel
theorem dX11_retire_33 : decode cX11_retire 33 = .ok (.getfield 206, 3) := by decide +kernel
theorem dX11_retire_36 : decode cX11_retire 36 = .ok (.iconst 1, 1) := by decide +kernel
theorem dX11_retire_37 : decode cX11_retire 37 = .ok (.if_icmp .ne 15, 3) := by decide +kernel
theorem dX11_retire_40 : decode cX11_retire 40 = .ok (.aload_n 0, 1) := by decide +kernel
theorem dX11_retire_41 : decode cX11_retire 41 = .ok (.getfield 18, 3) := by decide +kernel
theorem dX11_retire_44 : decode cX11_retire 44 = .ok (.iconst 0, 1) := by decide +kernel
theorem dX11_retire_45 : decode cX11_retire 45 = .ok (.iaload, 1) := by decide +kernel
theorem dX11_retire_46 : decode cX11_retire 46 = .ok (.bipush 32, 2) := by decide +kernel
theorem dX11_retire_48 : decode cX11_retire 48 = .ok (.ior, 1) := by decide +kernel
theorem dX11_retire_49 : decode cX11_retire 49 = .ok (.goto 12, 3) := by decide +kernel
theorem dX11_retire_52 : decode cX11_retire 52 = .ok (.aload_n 0, 1) := by decide +kernel
theorem dX11_retire_53 : decode cX11_retire 53 = .ok (.getfield 18, 3) := by decide +kernel
theorem dX11_retire_56 : decode cX11_retire 56 = .ok (.iconst 0, 1) := by decide +kernel
theorem dX11_retire_57 : decode cX11_retire 57 = .ok (.iaload, 1) := by decide +kernel
theorem dX11_retire_58 : decode cX11_retire 58 = .ok (.bipush (-33), 2) := by decide +kernel
theorem dX11_retire_60 : decode cX11_retire 60 = .ok (.iand, 1) := by decide +kernel
theorem dX11_retire_61 : decode cX11_retire 61 = .ok (.iastore, 1) := by decide +kernel
theorem dX11_retire_62 : decode cX11_retire 62 = .ok (.aload_n 0, 1) := by decide +kernel
theorem dX11_retire_63 : decode cX11_retire 63 = .ok (.getfield 209, 3) := by decide +kernel
theorem dX11_retire_66 : decode cX11_retire 66 = .ok (.ifCond .lt 40, 3) := by decide +kernel
theorem dX11_retire_69 : decode cX11_retire 69 = .ok (.aload_n 0, 1) := by decide +kernel
theorem dX11_retire_70 : decode cX11_retire 70 = .ok (.getfield 18, 3) := by decide +kernel
theorem dX11_retire_73 : decode cX11_retire 73 = .ok (.iconst 0, 1) := by decide +kernel
theorem dX11_retire_74 : decode cX11_retire 74 = .ok (.aload_n 0, 1) := by decide +kernel
theorem dX11_retire_75 : decode cX11_retire 75 = .ok (.getfield 209, 3) := by decide +kernel
theorem dX11_retire_78 : decode cX11_retire 78 = .ok (.iconst 1, 1) := by decide +kernel
theorem dX11_retire_79 : decode cX11_retire 79 = .ok (.if_icmp .ne 16, 3) := by decide +kernel
theorem dX11_retire_82 : decode cX11_retire 82 = .ok (.aload_n 0, 1) := by decide +kernel
theorem dX11_retire_83 : decode cX11_retire 83 = .ok (.getfield 18, 3) := by decide +kernel
theorem dX11_retire_86 : decode cX11_retire 86 = .ok (.iconst 0, 1) := by decide +kernel
theorem dX11_retire_87 : decode cX11_retire 87 = .ok (.iaload, 1) := by decide +kernel
theorem dX11_retire_88 : decode cX11_retire 88 = .ok (.sipush 128, 3) := by decide +kernel
theorem dX11_retire_91 : decode cX11_retire 91 = .ok (.ior, 1) := by decide +kernel
theorem dX11_retire_92 : decode cX11_retire 92 = .ok (.goto 13, 3) := by decide +kernel
theorem dX11_retire_95 : decode cX11_retire 95 = .ok (.aload_n 0, 1) := by decide +kernel
theorem dX11_retire_96 : decode cX11_retire 96 = .ok (.getfield 18, 3) := by decide +kernel
theorem dX11_retire_99 : decode cX11_retire 99 = .ok (.iconst 0, 1) := by decide +kernel
theorem dX11_retire_100 : decode cX11_retire 100 = .ok (.iaload, 1) := by decide +kernel
theorem dX11_retire_101 : decode cX11_retire 101 = .ok (.sipush (-129), 3) := by decide +kernel
theorem dX11_retire_104 : decode cX11_retire 104 = .ok (.iand, 1) := by decide +kernel
theorem dX11_retire_105 : decode cX11_retire 105 = .ok (.iastore, 1) := by decide +kernel
theorem dX11_retire_106 : decode cX11_retire 106 = .ok (.aload_n 0, 1) := by decide +kernel
theorem dX11_retire_107 : decode cX11_retire 107 = .ok (.getfield 212, 3) := by decide +kernel
theorem dX11_retire_110 : decode cX11_retire 110 = .ok (.ifCond .lt 40, 3) := by decide +kernel
theorem dX11_retire_113 : decode cX11_retire 113 = .ok (.aload_n 0, 1) := by decide +kernel
theorem dX11_retire_114 : decode cX11_retire 114 = .ok (.getfield 18, 3) := by decide +kernel
theorem dX11_retire_117 : decode cX11_retire 117 = .ok (.iconst 0, 1) := by decide +kernel
theorem dX11_retire_118 : decode cX11_retire 118 = .ok (.aload_n 0, 1) := by decide +kernel
theorem dX11_retire_119 : decode cX11_retire 119 = .ok (.getfield 212, 3) := by decide +kernel
theorem dX11_retire_122 : decode cX11_retire 122 = .ok (.iconst 1, 1) := by decide +kernel
theorem dX11_retire_123 : decode cX11_retire 123 = .ok (.if_icmp .ne 16, 3) := by decide +kernel
theorem dX11_retire_126 : decode cX11_retire 126 = .ok (.aload_n 0, 1) := by decide +kernel
theorem dX11_retire_127 : decode cX11_retire 127 = .ok (.getfield 18, 3) := by decide +kernel
theorem dX11_retire_130 : decode cX11_retire 130 = .ok (.iconst 0, 1) := by decide +kernel
theorem dX11_retire_131 : decode cX11_retire 131 = .ok (.iaload, 1) := by decide +kernel
theorem dX11_retire_132 : decode cX11_retire 132 = .ok (.sipush 256, 3) := by decide +kernel
theorem dX11_retire_135 : decode cX11_retire 135 = .ok (.ior, 1) := by decide +kernel
theorem dX11_retire_136 : decode cX11_retire 136 = .ok (.goto 13, 3) := by decide +kernel
theorem dX11_retire_139 : decode cX11_retire 139 = .ok (.aload_n 0, 1) := by decide +kernel
theorem dX11_retire_140 : decode cX11_retire 140 = .ok (.getfield 18, 3) := by decide +kernel
theorem dX11_retire_143 : decode cX11_retire 143 = .ok (.iconst 0, 1) := by decide +kernel
theorem dX11_retire_144 : decode cX11_retire 144 = .ok (.iaload, 1) := by decide +kernel
theorem dX11_retire_145 : decode cX11_retire 145 = .ok (.sipush (-257), 3) := by decide +kernel
theorem dX11_retire_148 : decode cX11_retire 148 = .ok (.iand, 1) := by decide +kernel
theorem dX11_retire_149 : decode cX11_retire 149 = .ok (.iastore, 1) := by decide +kernel
theorem dX11_retire_150 : decode cX11_retire 150 = .ok (.aload_n 0, 1) := by decide +kernel
theorem dX11_retire_151 : decode cX11_retire 151 = .ok (.aload_n 0, 1) := by decide +kernel
theorem dX11_retire_152 : decode cX11_retire 152 = .ok (.getfield 215, 3) := by decide +kernel
theorem dX11_retire_155 : decode cX11_retire 155 = .ok (.ifCond .eq 10, 3) := by decide +kernel
theorem dX11_retire_158 : decode cX11_retire 158 = .ok (.aload_n 0, 1) := by decide +kernel
theorem dX11_retire_159 : decode cX11_retire 159 = .ok (.getfield 268, 3) := by decide +kernel
theorem dX11_retire_162 : decode cX11_retire 162 = .ok (.goto 7, 3) := by decide +kernel
theorem dX11_retire_165 : decode cX11_retire 165 = .ok (.aload_n 0, 1) := by decide +kernel
theorem dX11_retire_166 : decode cX11_retire 166 = .ok (.getfield 52, 3) := by decide +kernel
theorem dX11_retire_169 : decode cX11_retire 169 = .ok (.putfield 52, 3) := by decide +kernel
theorem dX11_retire_172 : decode cX11_retire 172 = .ok (.aload_n 0, 1) := by decide +kernel
theorem dX11_retire_173 : decode cX11_retire 173 = .ok (.getfield 218, 3) := by decide +kernel
theorem dX11_retire_176 : decode cX11_retire 176 = .ok (.ifCond .lt 19, 3) := by decide +kernel
theorem dX11_retire_179 : decode cX11_retire 179 = .ok (.aload_n 0, 1) := by decide +kernel
theorem dX11_retire_180 : decode cX11_retire 180 = .ok (.aload_n 0, 1) := by decide +kernel
theorem dX11_retire_181 : decode cX11_retire 181 = .ok (.getfield 218, 3) := by decide +kernel
theorem dX11_retire_184 : decode cX11_retire 184 = .ok (.aload_n 0, 1) := by decide +kernel
theorem dX11_retire_185 : decode cX11_retire 185 = .ok (.getfield 297, 3) := by decide +kernel
theorem dX11_retire_188 : decode cX11_retire 188 = .ok (.aload_n 0, 1) := by decide +kernel
theorem dX11_retire_189 : decode cX11_retire 189 = .ok (.getfield 294, 3) := by decide +kernel
theorem dX11_retire_192 : decode cX11_retire 192 = .ok (.invokevirtual 109, 3) := by decide +kernel
theorem dX11_retire_195 : decode cX11_retire 195 = .ok (.aload_n 0, 1) := by decide +kernel
theorem dX11_retire_196 : decode cX11_retire 196 = .ok (.getfield 169, 3) := by decide +kernel
theorem dX11_retire_199 : decode cX11_retire 199 = .ok (.invokestatic 138, 3) := by decide +kernel
theorem dX11_retire_202 : decode cX11_retire 202 = .ok (.bipush 31, 2) := by decide +kernel
theorem dX11_retire_204 : decode cX11_retire 204 = .ok (.if_icmp .ne 29, 3) := by decide +kernel
theorem dX11_retire_207 : decode cX11_retire 207 = .ok (.aload_n 0, 1) := by decide +kernel
theorem dX11_retire_208 : decode cX11_retire 208 = .ok (.aload_n 0, 1) := by decide +kernel
theorem dX11_retire_209 : decode cX11_retire 209 = .ok (.getfield 169, 3) := by decide +kernel
theorem dX11_retire_212 : decode cX11_retire 212 = .ok (.ldc 246, 2) := by decide +kernel
theorem dX11_retire_214 : decode cX11_retire 214 = .ok (.iand, 1) := by decide +kernel
theorem dX11_retire_215 : decode cX11_retire 215 = .ok (.aload_n 0, 1) := by decide +kernel
theorem dX11_retire_216 : decode cX11_retire 216 = .ok (.getfield 14, 3) := by decide +kernel
theorem dX11_retire_219 : decode cX11_retire 219 = .ok (.aload_n 0, 1) := by decide +kernel
theorem dX11_retire_220 : decode cX11_retire 220 = .ok (.getfield 169, 3) := by decide +kernel
theorem dX11_retire_223 : decode cX11_retire 223 = .ok (.bipush 16, 2) := by decide +kernel
theorem dX11_retire_225 : decode cX11_retire 225 = .ok (.ishr, 1) := by decide +kernel
theorem dX11_retire_226 : decode cX11_retire 226 = .ok (.bipush 31, 2) := by decide +kernel
theorem dX11_retire_228 : decode cX11_retire 228 = .ok (.iand, 1) := by decide +kernel
theorem dX11_retire_229 : decode cX11_retire 229 = .ok (.iaload, 1) := by decide +kernel
theorem dX11_retire_230 : decode cX11_retire 230 = .ok (.invokevirtual 358, 3) := by decide +kernel
theorem dX11_retire_233 : decode cX11_retire 233 = .ok (.aload_n 0, 1) := by decide +kernel
theorem dX11_retire_234 : decode cX11_retire 234 = .ok (.getfield 221, 3) := by decide +kernel
theorem dX11_retire_237 : decode cX11_retire 237 = .ok (.ifCond .eq 28, 3) := by decide +kernel
theorem dX11_retire_240 : decode cX11_retire 240 = .ok (.aload_n 0, 1) := by decide +kernel
theorem dX11_retire_241 : decode cX11_retire 241 = .ok (.getfield 18, 3) := by decide +kernel
theorem dX11_retire_244 : decode cX11_retire 244 = .ok (.iconst 0, 1) := by decide +kernel
theorem dX11_retire_245 : decode cX11_retire 245 = .ok (.aload_n 0, 1) := by decide +kernel
theorem dX11_retire_246 : decode cX11_retire 246 = .ok (.getfield 18, 3) := by decide +kernel
theorem dX11_retire_249 : decode cX11_retire 249 = .ok (.iconst 2, 1) := by decide +kernel
theorem dX11_retire_250 : decode cX11_retire 250 = .ok (.iaload, 1) := by decide +kernel
theorem dX11_retire_251 : decode cX11_retire 251 = .ok (.iastore, 1) := by decide +kernel
theorem dX11_retire_252 : decode cX11_retire 252 = .ok (.aload_n 0, 1) := by decide +kernel
theorem dX11_retire_253 : decode cX11_retire 253 = .ok (.aload_n 0, 1) := by decide +kernel
theorem dX11_retire_254 : decode cX11_retire 254 = .ok (.getfield 18, 3) := by decide +kernel
theorem dX11_retire_257 : decode cX11_retire 257 = .ok (.iconst 1, 1) := by decide +kernel
theorem dX11_retire_258 : decode cX11_retire 258 = .ok (.iaload, 1) := by decide +kernel
theorem dX11_retire_259 : decode cX11_retire 259 = .ok (.putfield 56, 3) := by decide +kernel
theorem dX11_retire_262 : decode cX11_retire 262 = .ok (.goto 139, 3) := by decide +kernel
theorem dX11_retire_265 : decode cX11_retire 265 = .ok (.aload_n 0, 1) := by decide +kernel
theorem dX11_retire_266 : decode cX11_retire 266 = .ok (.getfield 59, 3) := by decide +kernel
theorem dX11_retire_269 : decode cX11_retire 269 = .ok (.ifCond .eq 18, 3) := by decide +kernel
theorem dX11_retire_272 : decode cX11_retire 272 = .ok (.aload_n 0, 1) := by decide +kernel
theorem dX11_retire_273 : decode cX11_retire 273 = .ok (.aload_n 0, 1) := by decide +kernel
theorem dX11_retire_274 : decode cX11_retire 274 = .ok (.getfield 66, 3) := by decide +kernel
theorem dX11_retire_277 : decode cX11_retire 277 = .ok (.putfield 56, 3) := by decide +kernel
theorem dX11_retire_280 : decode cX11_retire 280 = .ok (.aload_n 0, 1) := by decide +kernel
theorem dX11_retire_281 : decode cX11_retire 281 = .ok (.invokevirtual 355, 3) := by decide +kernel
theorem dX11_retire_284 : decode cX11_retire 284 = .ok (.goto 117, 3) := by decide +kernel
theorem dX11_retire_287 : decode cX11_retire 287 = .ok (.aload_n 0, 1) := by decide +kernel
theorem dX11_retire_288 : decode cX11_retire 288 = .ok (.getfield 169, 3) := by decide +kernel
theorem dX11_retire_291 : decode cX11_retire 291 = .ok (.invokestatic 172, 3) := by decide +kernel
theorem dX11_retire_294 : decode cX11_retire 294 = .ok (.ifCond .eq 99, 3) := by decide +kernel
theorem dX11_retire_297 : decode cX11_retire 297 = .ok (.aload_n 0, 1) := by decide +kernel
theorem dX11_retire_298 : decode cX11_retire 298 = .ok (.iconst 1, 1) := by decide +kernel
theorem dX11_retire_299 : decode cX11_retire 299 = .ok (.putfield 59, 3) := by decide +kernel
theorem dX11_retire_302 : decode cX11_retire 302 = .ok (.aload_n 0, 1) := by decide +kernel
theorem dX11_retire_303 : decode cX11_retire 303 = .ok (.aload_n 0, 1) := by decide +kernel
theorem dX11_retire_304 : decode cX11_retire 304 = .ok (.getfield 56, 3) := by decide +kernel
theorem dX11_retire_307 : decode cX11_retire 307 = .ok (.putfield 63, 3) := by decide +kernel
theorem dX11_retire_310 : decode cX11_retire 310 = .ok (.aload_n 0, 1) := by decide +kernel
theorem dX11_retire_311 : decode cX11_retire 311 = .ok (.aload_n 0, 1) := by decide +kernel
theorem dX11_retire_312 : decode cX11_retire 312 = .ok (.getfield 227, 3) := by decide +kernel
theorem dX11_retire_315 : decode cX11_retire 315 = .ok (.putfield 66, 3) := by decide +kernel
theorem dX11_retire_318 : decode cX11_retire 318 = .ok (.aload_n 0, 1) := by decide +kernel
theorem dX11_retire_319 : decode cX11_retire 319 = .ok (.aload_n 0, 1) := by decide +kernel
theorem dX11_retire_320 : decode cX11_retire 320 = .ok (.getfield 169, 3) := by decide +kernel
theorem dX11_retire_323 : decode cX11_retire 323 = .ok (.invokestatic 138, 3) := by decide +kernel
theorem dX11_retire_326 : decode cX11_retire 326 = .ok (.bipush 24, 2) := by decide +kernel
theorem dX11_retire_328 : decode cX11_retire 328 = .ok (.if_icmp .ge 7, 3) := by decide +kernel
theorem dX11_retire_331 : decode cX11_retire 331 = .ok (.iconst 1, 1) := by decide +kernel
theorem dX11_retire_332 : decode cX11_retire 332 = .ok (.goto 4, 3) := by decide +kernel
theorem dX11_retire_335 : decode cX11_retire 335 = .ok (.iconst 0, 1) := by decide +kernel
theorem dX11_retire_336 : decode cX11_retire 336 = .ok (.putfield 343, 3) := by decide +kernel
theorem dX11_retire_339 : decode cX11_retire 339 = .ok (.aload_n 0, 1) := by decide +kernel
theorem dX11_retire_340 : decode cX11_retire 340 = .ok (.aload_n 0, 1) := by decide +kernel
theorem dX11_retire_341 : decode cX11_retire 341 = .ok (.getfield 169, 3) := by decide +kernel
theorem dX11_retire_344 : decode cX11_retire 344 = .ok (.invokestatic 138, 3) := by decide +kernel
theorem dX11_retire_347 : decode cX11_retire 347 = .ok (.bipush 22, 2) := by decide +kernel
theorem dX11_retire_349 : decode cX11_retire 349 = .ok (.if_icmp .lt 25, 3) := by decide +kernel
theorem dX11_retire_352 : decode cX11_retire 352 = .ok (.aload_n 0, 1) := by decide +kernel
theorem dX11_retire_353 : decode cX11_retire 353 = .ok (.getfield 169, 3) := by decide +kernel
theorem dX11_retire_356 : decode cX11_retire 356 = .ok (.invokestatic 138, 3) := by decide +kernel
theorem dX11_retire_359 : decode cX11_retire 359 = .ok (.bipush 24, 2) := by decide +kernel
theorem dX11_retire_361 : decode cX11_retire 361 = .ok (.if_icmp .ge 17, 3) := by decide +kernel
theorem dX11_retire_364 : decode cX11_retire 364 = .ok (.aload_n 0, 1) := by decide +kernel
theorem dX11_retire_365 : decode cX11_retire 365 = .ok (.getfield 169, 3) := by decide +kernel
theorem dX11_retire_368 : decode cX11_retire 368 = .ok (.bipush 6, 2) := by decide +kernel
theorem dX11_retire_370 : decode cX11_retire 370 = .ok (.ishl, 1) := by decide +kernel
theorem dX11_retire_371 : decode cX11_retire 371 = .ok (.ifCond .ge 7, 3) := by decide +kernel
theorem dX11_retire_374 : decode cX11_retire 374 = .ok (.iconst 1, 1) := by decide +kernel
theorem dX11_retire_375 : decode cX11_retire 375 = .ok (.goto 4, 3) := by decide +kernel
theorem dX11_retire_378 : decode cX11_retire 378 = .ok (.iconst 0, 1) := by decide +kernel
theorem dX11_retire_379 : decode cX11_retire 379 = .ok (.putfield 346, 3) := by decide +kernel
theorem dX11_retire_382 : decode cX11_retire 382 = .ok (.aload_n 0, 1) := by decide +kernel
theorem dX11_retire_383 : decode cX11_retire 383 = .ok (.aload_n 0, 1) := by decide +kernel
theorem dX11_retire_384 : decode cX11_retire 384 = .ok (.getfield 224, 3) := by decide +kernel
theorem dX11_retire_387 : decode cX11_retire 387 = .ok (.putfield 56, 3) := by decide +kernel
theorem dX11_retire_390 : decode cX11_retire 390 = .ok (.goto 11, 3) := by decide +kernel
theorem dX11_retire_393 : decode cX11_retire 393 = .ok (.aload_n 0, 1) := by decide +kernel
theorem dX11_retire_394 : decode cX11_retire 394 = .ok (.aload_n 0, 1) := by decide +kernel
theorem dX11_retire_395 : decode cX11_retire 395 = .ok (.getfield 224, 3) := by decide +kernel
theorem dX11_retire_398 : decode cX11_retire 398 = .ok (.putfield 56, 3) := by decide +kernel
theorem dX11_retire_401 : decode cX11_retire 401 = .ok (.aload_n 0, 1) := by decide +kernel
theorem dX11_retire_402 : decode cX11_retire 402 = .ok (.dup, 1) := by decide +kernel
theorem dX11_retire_403 : decode cX11_retire 403 = .ok (.getfield 69, 3) := by decide +kernel
theorem dX11_retire_406 : decode cX11_retire 406 = .ok (.iconst 1, 1) := by decide +kernel
theorem dX11_retire_407 : decode cX11_retire 407 = .ok (.iadd, 1) := by decide +kernel
theorem dX11_retire_408 : decode cX11_retire 408 = .ok (.putfield 69, 3) := by decide +kernel
theorem dX11_retire_411 : decode cX11_retire 411 = .ok (.aload_n 0, 1) := by decide +kernel
theorem dX11_retire_412 : decode cX11_retire 412 = .ok (.getfield 18, 3) := by decide +kernel
theorem dX11_retire_415 : decode cX11_retire 415 = .ok (.iconst 5, 1) := by decide +kernel
theorem dX11_retire_416 : decode cX11_retire 416 = .ok (.iaload, 1) := by decide +kernel
theorem dX11_retire_417 : decode cX11_retire 417 = .ok (.bipush 29, 2) := by decide +kernel
theorem dX11_retire_419 : decode cX11_retire 419 = .ok (.ishr, 1) := by decide +kernel
theorem dX11_retire_420 : decode cX11_retire 420 = .ok (.iconst 3, 1) := by decide +kernel
theorem dX11_retire_421 : decode cX11_retire 421 = .ok (.iand, 1) := by decide +kernel
theorem dX11_retire_422 : decode cX11_retire 422 = .ok (.istore_n 1, 1) := by decide +kernel
theorem dX11_retire_423 : decode cX11_retire 423 = .ok (.iload_n 1, 1) := by decide +kernel
theorem dX11_retire_424 : decode cX11_retire 424 = .ok (.ifCond .le 95, 3) := by decide +kernel
theorem dX11_retire_427 : decode cX11_retire 427 = .ok (.aload_n 0, 1) := by decide +kernel
theorem dX11_retire_428 : decode cX11_retire 428 = .ok (.getfield 18, 3) := by decide +kernel
theorem dX11_retire_431 : decode cX11_retire 431 = .ok (.iconst 4, 1) := by decide +kernel
theorem dX11_retire_432 : decode cX11_retire 432 = .ok (.aload_n 0, 1) := by decide +kernel
theorem dX11_retire_433 : decode cX11_retire 433 = .ok (.getfield 18, 3) := by decide +kernel
theorem dX11_retire_436 : decode cX11_retire 436 = .ok (.iconst 4, 1) := by decide +kernel
theorem dX11_retire_437 : decode cX11_retire 437 = .ok (.iaload, 1) := by decide +kernel
theorem dX11_retire_438 : decode cX11_retire 438 = .ok (.iconst 1, 1) := by decide +kernel
theorem dX11_retire_439 : decode cX11_retire 439 = .ok (.iadd, 1) := by decide +kernel
theorem dX11_retire_440 : decode cX11_retire 440 = .ok (.ldc_w 361, 3) := by decide +kernel
theorem dX11_retire_443 : decode cX11_retire 443 = .ok (.iand, 1) := by decide +kernel
theorem dX11_retire_444 : decode cX11_retire 444 = .ok (.iastore, 1) := by decide +kernel
theorem dX11_retire_445 : decode cX11_retire 445 = .ok (.aload_n 0, 1) := by decide +kernel
theorem dX11_retire_446 : decode cX11_retire 446 = .ok (.getfield 18, 3) := by decide +kernel
theorem dX11_retire_449 : decode cX11_retire 449 = .ok (.iconst 4, 1) := by decide +kernel
theorem dX11_retire_450 : decode cX11_retire 450 = .ok (.iaload, 1) := by decide +kernel
theorem dX11_retire_451 : decode cX11_retire 451 = .ok (.aload_n 0, 1) := by decide +kernel
theorem dX11_retire_452 : decode cX11_retire 452 = .ok (.getfield 18, 3) := by decide +kernel
theorem dX11_retire_455 : decode cX11_retire 455 = .ok (.iconst 5, 1) := by decide +kernel
theorem dX11_retire_456 : decode cX11_retire 456 = .ok (.iaload, 1) := by decide +kernel
theorem dX11_retire_457 : decode cX11_retire 457 = .ok (.ldc_w 361, 3) := by decide +kernel
theorem dX11_retire_460 : decode cX11_retire 460 = .ok (.iand, 1) := by decide +kernel
theorem dX11_retire_461 : decode cX11_retire 461 = .ok (.if_icmp .ne 58, 3) := by decide +kernel
theorem dX11_retire_464 : decode cX11_retire 464 = .ok (.aload_n 0, 1) := by decide +kernel
theorem dX11_retire_465 : decode cX11_retire 465 = .ok (.getfield 18, 3) := by decide +kernel
theorem dX11_retire_468 : decode cX11_retire 468 = .ok (.iconst 4, 1) := by decide +kernel
theorem dX11_retire_469 : decode cX11_retire 469 = .ok (.iload_n 1, 1) := by decide +kernel
theorem dX11_retire_470 : decode cX11_retire 470 = .ok (.iconst 1, 1) := by decide +kernel
theorem dX11_retire_471 : decode cX11_retire 471 = .ok (.if_icmp .ne 7, 3) := by decide +kernel
theorem dX11_retire_474 : decode cX11_retire 474 = .ok (.iconst 0, 1) := by decide +kernel
theorem dX11_retire_475 : decode cX11_retire 475 = .ok (.goto 9, 3) := by decide +kernel
theorem dX11_retire_478 : decode cX11_retire 478 = .ok (.aload_n 0, 1) := by decide +kernel
theorem dX11_retire_479 : decode cX11_retire 479 = .ok (.getfield 18, 3) := by decide +kernel
theorem dX11_retire_482 : decode cX11_retire 482 = .ok (.iconst 4, 1) := by decide +kernel
theorem dX11_retire_483 : decode cX11_retire 483 = .ok (.iaload, 1) := by decide +kernel
theorem dX11_retire_484 : decode cX11_retire 484 = .ok (.iastore, 1) := by decide +kernel
theorem dX11_retire_485 : decode cX11_retire 485 = .ok (.aload_n 0, 1) := by decide +kernel
theorem dX11_retire_486 : decode cX11_retire 486 = .ok (.getfield 18, 3) := by decide +kernel
theorem dX11_retire_489 : decode cX11_retire 489 = .ok (.iconst 5, 1) := by decide +kernel
theorem dX11_retire_490 : decode cX11_retire 490 = .ok (.iload_n 1, 1) := by decide +kernel
theorem dX11_retire_491 : decode cX11_retire 491 = .ok (.iconst 2, 1) := by decide +kernel
theorem dX11_retire_492 : decode cX11_retire 492 = .ok (.if_icmp .ne 16, 3) := by decide +kernel
theorem dX11_retire_495 : decode cX11_retire 495 = .ok (.aload_n 0, 1) := by decide +kernel
theorem dX11_retire_496 : decode cX11_retire 496 = .ok (.getfield 18, 3) := by decide +kernel
theorem dX11_retire_499 : decode cX11_retire 499 = .ok (.iconst 5, 1) := by decide +kernel
theorem dX11_retire_500 : decode cX11_retire 500 = .ok (.iaload, 1) := by decide +kernel
theorem dX11_retire_501 : decode cX11_retire 501 = .ok (.ldc_w 362, 3) := by decide +kernel
theorem dX11_retire_504 : decode cX11_retire 504 = .ok (.iand, 1) := by decide +kernel
theorem dX11_retire_505 : decode cX11_retire 505 = .ok (.goto 9, 3) := by decide +kernel
theorem dX11_retire_508 : decode cX11_retire 508 = .ok (.aload_n 0, 1) := by decide +kernel
theorem dX11_retire_509 : decode cX11_retire 509 = .ok (.getfield 18, 3) := by decide +kernel
theorem dX11_retire_512 : decode cX11_retire 512 = .ok (.iconst 5, 1) := by decide +kernel
theorem dX11_retire_513 : decode cX11_retire 513 = .ok (.iaload, 1) := by decide +kernel
theorem dX11_retire_514 : decode cX11_retire 514 = .ok (.ldc_w 363, 3) := by decide +kernel
theorem dX11_retire_517 : decode cX11_retire 517 = .ok (.ior, 1) := by decide +kernel
theorem dX11_retire_518 : decode cX11_retire 518 = .ok (.iastore, 1) := by decide +kernel
theorem dX11_retire_519 : decode cX11_retire 519 = .ok (.aload_n 0, 1) := by decide +kernel
theorem dX11_retire_520 : decode cX11_retire 520 = .ok (.getfield 18, 3) := by decide +kernel
theorem dX11_retire_523 : decode cX11_retire 523 = .ok (.bipush 7, 2) := by decide +kernel
theorem dX11_retire_525 : decode cX11_retire 525 = .ok (.dup2, 1) := by decide +kernel
theorem dX11_retire_526 : decode cX11_retire 526 = .ok (.iaload, 1) := by decide +kernel
theorem dX11_retire_527 : decode cX11_retire 527 = .ok (.aload_n 0, 1) := by decide +kernel
theorem dX11_retire_528 : decode cX11_retire 528 = .ok (.invokevirtual 300, 3) := by decide +kernel
theorem dX11_retire_531 : decode cX11_retire 531 = .ok (.aload_n 0, 1) := by decide +kernel
theorem dX11_retire_532 : decode cX11_retire 532 = .ok (.getfield 18, 3) := by decide +kernel
theorem dX11_retire_535 : decode cX11_retire 535 = .ok (.bipush 9, 2) := by decide +kernel
theorem dX11_retire_537 : decode cX11_retire 537 = .ok (.iaload, 1) := by decide +kernel
theorem dX11_retire_538 : decode cX11_retire 538 = .ok (.iand, 1) := by decide +kernel
theorem dX11_retire_539 : decode cX11_retire 539 = .ok (.ior, 1) := by decide +kernel
theorem dX11_retire_540 : decode cX11_retire 540 = .ok (.iastore, 1) := by decide +kernel
theorem dX11_retire_541 : decode cX11_retire 541 = .ok (.return_, 1) := by decide +kernel
set_option maxRecDepth 1000000 in
theorem ggX11_writeSpecial_X11_isMap : GoodIn wsX11_writeSpecial wsX11_isMap := goodIn_r _ [12, 13, 14, 15, 16, 17, 18, 19, 20, 21, 22, 23, 24, 25, 26, 27, 28, 29, 30, 31, 32, 33, 34, 35, 36, 37, 38, 39, 40, 41, 42, 43, 44, 45, 46, 47, 48, 49, 50, 51, 52, 53, 54, 55, 56, 57, 58, 59, 60, 61, 62, 63, 64, 65, 66, 67, 68, 69, 70, 71, 72, 73] rfl (by decide +kernel)
set_option maxRecDepth 1000000 in
theorem gX11_writeSpecial_X11_isMap : GoodIn wsX11_writeSpecial (wsV RX11 303 RX11 yX11_isMap wsX11_isMap) := goodIn_app (goodIn_of _ (by decide +kernel)) ggX11_writeSpecial_X11_isMap
theorem dX11_writeSpecial_0 : decode cX11_writeSpecial 0 = .ok (.iload_n 1, 1) := by decide +kernel
theorem dX11_writeSpecial_1 : decode cX11_writeSpecial 1 = .ok (.bipush 7, 2) := by decide +kernel
theorem dX11_writeSpecial_3 : decode cX11_writeSpecial 3 = .ok (.if_icmp .ne 19, 3) := by decide +kernel
theorem dX11_writeSpecial_6 : decode cX11_writeSpecial 6 = .ok (.aload_n 0, 1) := by decide +kernel
theorem dX11_writeSpecial_7 : decode cX11_writeSpecial 7 = .ok (.getfield 18, 3) := by decide +kernel
theorem dX11_writeSpecial_10 : decode cX11_writeSpecial 10 = .ok (.bipush 7, 2) := by decide +kernel
theorem dX11_writeSpecial_12 : decode cX11_writeSpecial 12 = .ok (.dup2, 1) := by decide +kernel
theorem dX11_writeSpecial_13 : decode cX11_writeSpecial 13 = .ok (.iaload, 1) := by decide +kernel
theorem dX11_writeSpecial_14 : decode cX11_writeSpecial 14 = .ok (.iload_n 2, 1) := by decide +kernel
theorem dX11_writeSpecial_15 : decode cX11_writeSpecial 15 = .ok (.iconst (-1), 1) := by decide +kernel
theorem dX11_writeSpecial_16 : decode cX11_writeSpecial 16 = .ok (.ixor, 1) := by decide +kernel
theorem dX11_writeSpecial_17 : decode cX11_writeSpecial 17 = .ok (.iand, 1) := by decide +kernel
theorem dX11_writeSpecial_18 : decode cX11_writeSpecial 18 = .ok (.iastore, 1) := by decide +kernel
theorem dX11_writeSpecial_19 : decode cX11_writeSpecial 19 = .ok (.goto 142, 3) := by decide +kernel
theorem dX11_writeSpecial_22 : decode cX11_writeSpecial 22 = .ok (.iload_n 1, 1) := by decide +kernel
theorem dX11_writeSpecial_23 : decode cX11_writeSpecial 23 = .ok (.bipush 10, 2) := by decide +kernel
theorem dX11_writeSpecial_25 : decode cX11_writeSpecial 25 = .ok (.if_icmp .ne 24, 3) := by decide +kernel
theorem dX11_writeSpecial_28 : decode cX11_writeSpecial 28 = .ok (.aload_n 0, 1) := by decide +kernel
theorem dX11_writeSpecial_29 : decode cX11_writeSpecial 29 = .ok (.iload_n 2, 1) := by decide +kernel
theorem dX11_writeSpecial_30 : decode cX11_writeSpecial 30 = .ok (.i2l, 1) := by decide +kernel
theorem dX11_writeSpecial_31 : decode cX11_writeSpecial 31 = .ok (.bipush 32, 2) := by decide +kernel
theorem dX11_writeSpecial_33 : decode cX11_writeSpecial 33 = .ok (.lshl, 1) := by decide +kernel
theorem dX11_writeSpecial_34 : decode cX11_writeSpecial 34 = .ok (.aload_n 0, 1) := by decide +kernel
theorem dX11_writeSpecial_35 : decode cX11_writeSpecial 35 = .ok (.getfield 52, 3) := by decide +kernel
theorem dX11_writeSpecial_38 : decode cX11_writeSpecial 38 = .ok (.ldc2_w 130, 3) := by decide +kernel
theorem dX11_writeSpecial_41 : decode cX11_writeSpecial 41 = .ok (.land, 1) := by decide +kernel
theorem dX11_writeSpecial_42 : decode cX11_writeSpecial 42 = .ok (.lor, 1) := by decide +kernel
theorem dX11_writeSpecial_43 : decode cX11_writeSpecial 43 = .ok (.putfield 52, 3) := by decide +kernel
theorem dX11_writeSpecial_46 : decode cX11_writeSpecial 46 = .ok (.goto 115, 3) := by decide +kernel
theorem dX11_writeSpecial_49 : decode cX11_writeSpecial 49 = .ok (.iload_n 1, 1) := by decide +kernel
theorem dX11_writeSpecial_50 : decode cX11_writeSpecial 50 = .ok (.bipush 11, 2) := by decide +kernel
theorem dX11_writeSpecial_52 : decode cX11_writeSpecial 52 = .ok (.if_icmp .ne 25, 3) := by decide +kernel
theorem dX11_writeSpecial_55 : decode cX11_writeSpecial 55 = .ok (.aload_n 0, 1) := by decide +kernel
theorem dX11_writeSpecial_56 : decode cX11_writeSpecial 56 = .ok (.aload_n 0, 1) := by decide +kernel
theorem dX11_writeSpecial_57 : decode cX11_writeSpecial 57 = .ok (.getfield 52, 3) := by decide +kernel
theorem dX11_writeSpecial_60 : decode cX11_writeSpecial 60 = .ok (.ldc2_w 364, 3) := by decide +kernel
theorem dX11_writeSpecial_63 : decode cX11_writeSpecial 63 = .ok (.land, 1) := by decide +kernel
theorem dX11_writeSpecial_64 : decode cX11_writeSpecial 64 = .ok (.iload_n 2, 1) := by decide +kernel
theorem dX11_writeSpecial_65 : decode cX11_writeSpecial 65 = .ok (.i2l, 1) := by decide +kernel
theorem dX11_writeSpecial_66 : decode cX11_writeSpecial 66 = .ok (.ldc2_w 130, 3) := by decide +kernel
theorem dX11_writeSpecial_69 : decode cX11_writeSpecial 69 = .ok (.land, 1) := by decide +kernel
theorem dX11_writeSpecial_70 : decode cX11_writeSpecial 70 = .ok (.lor, 1) := by decide +kernel
theorem dX11_writeSpecial_71 : decode cX11_writeSpecial 71 = .ok (.putfield 52, 3) := by decide +kernel
theorem dX11_writeSpecial_74 : decode cX11_writeSpecial 74 = .ok (.goto 87, 3) := by decide +kernel
theorem dX11_writeSpecial_77 : decode cX11_writeSpecial 77 = .ok (.aload_n 0, 1) := by decide +kernel
theorem dX11_writeSpecial_78 : decode cX11_writeSpecial 78 = .ok (.iload_n 1, 1) := by decide +kernel
theorem dX11_writeSpecial_79 : decode cX11_writeSpecial 79 = .ok (.invokevirtual 303, 3) := by decide +kernel
theorem dX11_writeSpecial_82 : decode cX11_writeSpecial 82 = .ok (.ifCond .eq 17, 3) := by decide +kernel
theorem dX11_writeSpecial_85 : decode cX11_writeSpecial 85 = .ok (.aload_n 0, 1) := by decide +kernel
theorem dX11_writeSpecial_86 : decode cX11_writeSpecial 86 = .ok (.getfield 21, 3) := by decide +kernel
theorem dX11_writeSpecial_89 : decode cX11_writeSpecial 89 = .ok (.iload_n 1, 1) := by decide +kernel
theorem dX11_writeSpecial_90 : decode cX11_writeSpecial 90 = .ok (.sipush 1024, 3) := by decide +kernel
theorem dX11_writeSpecial_93 : decode cX11_writeSpecial 93 = .ok (.isub, 1) := by decide +kernel
theorem dX11_writeSpecial_94 : decode cX11_writeSpecial 94 = .ok (.iload_n 2, 1) := by decide +kernel
theorem dX11_writeSpecial_95 : decode cX11_writeSpecial 95 = .ok (.iastore, 1) := by decide +kernel
theorem dX11_writeSpecial_96 : decode cX11_writeSpecial 96 = .ok (.goto 65, 3) := by decide +kernel
theorem dX11_writeSpecial_99 : decode cX11_writeSpecial 99 = .ok (.iload_n 1, 1) := by decide +kernel
theorem dX11_writeSpecial_100 : decode cX11_writeSpecial 100 = .ok (.bipush 10, 2) := by decide +kernel
theorem dX11_writeSpecial_102 : decode cX11_writeSpecial 102 = .ok (.if_icmp .ge 59, 3) := by decide +kernel
theorem dX11_writeSpecial_105 : decode cX11_writeSpecial 105 = .ok (.iload_n 1, 1) := by decide +kernel
theorem dX11_writeSpecial_106 : decode cX11_writeSpecial 106 = .ok (.bipush 8, 2) := by decide +kernel
theorem dX11_writeSpecial_108 : decode cX11_writeSpecial 108 = .ok (.if_icmp .eq 53, 3) := by decide +kernel
theorem dX11_writeSpecial_111 : decode cX11_writeSpecial 111 = .ok (.aload_n 0, 1) := by decide +kernel
theorem dX11_writeSpecial_112 : decode cX11_writeSpecial 112 = .ok (.getfield 18, 3) := by decide +kernel
theorem dX11_writeSpecial_115 : decode cX11_writeSpecial 115 = .ok (.iload_n 1, 1) := by decide +kernel
theorem dX11_writeSpecial_116 : decode cX11_writeSpecial 116 = .ok (.iload_n 1, 1) := by decide +kernel
theorem dX11_writeSpecial_117 : decode cX11_writeSpecial 117 = .ok (.ifCond .eq 8, 3) := by decide +kernel
theorem dX11_writeSpecial_120 : decode cX11_writeSpecial 120 = .ok (.iload_n 1, 1) := by decide +kernel
theorem dX11_writeSpecial_121 : decode cX11_writeSpecial 121 = .ok (.iconst 2, 1) := by decide +kernel
theorem dX11_writeSpecial_122 : decode cX11_writeSpecial 122 = .ok (.if_icmp .ne 11, 3) := by decide +kernel
theorem dX11_writeSpecial_125 : decode cX11_writeSpecial 125 = .ok (.iload_n 2, 1) := by decide +kernel
theorem dX11_writeSpecial_126 : decode cX11_writeSpecial 126 = .ok (.sipush 1023, 3) := by decide +kernel
theorem dX11_writeSpecial_129 : decode cX11_writeSpecial 129 = .ok (.iand, 1) := by decide +kernel
theorem dX11_writeSpecial_130 : decode cX11_writeSpecial 130 = .ok (.goto 30, 3) := by decide +kernel
theorem dX11_writeSpecial_133 : decode cX11_writeSpecial 133 = .ok (.iload_n 1, 1) := by decide +kernel
theorem dX11_writeSpecial_134 : decode cX11_writeSpecial 134 = .ok (.iconst 4, 1) := by decide +kernel
theorem dX11_writeSpecial_135 : decode cX11_writeSpecial 135 = .ok (.if_icmp .ne 11, 3) := by decide +kernel
theorem dX11_writeSpecial_138 : decode cX11_writeSpecial 138 = .ok (.iload_n 2, 1) := by decide +kernel
theorem dX11_writeSpecial_139 : decode cX11_writeSpecial 139 = .ok (.ldc_w 361, 3) := by decide +kernel
theorem dX11_writeSpecial_142 : decode cX11_writeSpecial 142 = .ok (.iand, 1) := by decide +kernel
theorem dX11_writeSpecial_143 : decode cX11_writeSpecial 143 = .ok (.goto 17, 3) := by decide +kernel
theorem dX11_writeSpecial_146 : decode cX11_writeSpecial 146 = .ok (.iload_n 1, 1) := by decide +kernel
theorem dX11_writeSpecial_147 : decode cX11_writeSpecial 147 = .ok (.iconst 5, 1) := by decide +kernel
theorem dX11_writeSpecial_148 : decode cX11_writeSpecial 148 = .ok (.if_icmp .ne 11, 3) := by decide +kernel
theorem dX11_writeSpecial_151 : decode cX11_writeSpecial 151 = .ok (.iload_n 2, 1) := by decide +kernel
theorem dX11_writeSpecial_152 : decode cX11_writeSpecial 152 = .ok (.ldc_w 366, 3) := by decide +kernel
theorem dX11_writeSpecial_155 : decode cX11_writeSpecial 155 = .ok (.iand, 1) := by decide +kernel
theorem dX11_writeSpecial_156 : decode cX11_writeSpecial 156 = .ok (.goto 4, 3) := by decide +kernel
theorem dX11_writeSpecial_159 : decode cX11_writeSpecial 159 = .ok (.iload_n 2, 1) := by decide +kernel
theorem dX11_writeSpecial_160 : decode cX11_writeSpecial 160 = .ok (.iastore, 1) := by decide +kernel
theorem dX11_writeSpecial_161 : decode cX11_writeSpecial 161 = .ok (.return_, 1) := by decide +kernel
set_option maxRecDepth 1000000 in
theorem ggX11_runCycles_X11_look : GoodIn wsX11_runCycles wsX11_look := goodIn_r _ [10, 11, 12, 13, 14, 15, 16, 17, 18, 19, 20, 21, 22, 23, 24, 25, 26, 27, 28, 29, 30, 9, 31, 32, 33, 34, 35, 36, 37, 38, 39, 40, 41, 42, 43, 44, 45, 46, 47, 48, 49, 50, 51, 52, 53, 54, 55, 56, 57, 58, 59, 60, 61, 62, 63, 64, 65, 66, 67, 68, 69, 70, 71, 72, 73, 74, 75, 76, 77, 78, 79, 80, 81, 82, 83, 84, 85, 86, 87, 88, 89, 90, 91, 92, 93, 94, 95, 96, 97, 98, 99, 100, 101, 102, 103, 104, 105, 106, 107, 108, 109, 110, 111, 112, 113, 114, 115, 116, 117, 118, 119, 120, 121, 122, 123, 124, 125, 126, 127, 128, 129, 130, 131, 132, 133, 134, 135, 136, 137, 138, 139, 140, 141, 142, 244, 245, 246, 247, 248, 249, 250, 251, 252, 253, 254, 255, 256, 257, 258, 259, 260, 261, 262, 263, 264, 265, 266, 267, 268, 269, 270, 271, 272, 273, 274, 275, 276, 277, 278, 279, 280, 281, 282, 283, 284, 285, 286, 287, 288, 289, 290, 291, 292, 293, 294, 295, 296, 297, 298, 299, 300, 301, 302, 303] rfl (by decide +kernel)
set_option maxRecDepth 1000000 in
theorem gX11_runCycles_X11_look : GoodIn wsX11_runCycles (wsV RX11 368 RX11 yX11_look wsX11_look) := goodIn_app (goodIn_of _ (by decide +kernel)) ggX11_runCycles_X11_look
set_option maxRecDepth 1000000 in
theorem ggX11_runCycles_X11_reckon : GoodIn wsX11_runCycles wsX11_reckon := goodIn_r _ [146, 23, 4, 147, 20, 148, 149, 150, 151, 152, 153, 154, 24, 155, 156, 157, 158, 159, 160, 11, 5, 161, 162, 163, 9, 164, 165, 166, 167, 168, 169, 170, 171, 172, 173, 174, 175, 176, 177, 64, 65, 66, 67, 68, 69, 70, 71, 72, 114, 115, 116, 178, 179, 180, 181, 182, 183, 86, 87, 88, 184, 185, 186, 187, 188, 189, 123, 124, 125, 190, 191, 192, 193, 194, 195, 196, 197, 198, 199, 200, 201, 111, 112, 113, 202, 203, 204, 205, 206, 244, 245, 246, 247, 248, 249, 250, 251, 252, 253, 254, 255, 256, 257, 258, 259, 260, 261, 262, 263, 264, 265, 266, 267, 268, 269, 270, 271, 272, 273, 274, 275, 276, 277, 278, 279, 280, 281, 282, 283, 284, 285, 286, 287, 288, 289, 290, 291, 292, 293, 294, 295, 296, 297, 298, 299, 300, 301, 302, 303] rfl (by decide +kernel)
set_option maxRecDepth 1000000 in
theorem gX11_runCycles_X11_reckon : GoodIn wsX11_runCycles (wsV RX11 371 RX11 yX11_reckon wsX11_reckon) := goodIn_app (goodIn_of _ (by decide +kernel)) ggX11_runCycles_X11_reckon
set_option maxRecDepth 1000000 in
theorem ggX11_runCycles_X11_happen : GoodIn wsX11_runCycles wsX11_happen := goodIn_r _ [210, 23, 24, 4, 211, 5, 11, 13, 14, 18, 27, 153, 160, 20, 26, 122, 212, 213, 165, 206, 159, 155, 156, 157, 158, 214, 215, 79, 149, 154, 150, 174, 173, 148, 152, 151, 147, 216, 64, 65, 9, 66, 67, 68, 69, 202, 203, 204, 205, 184, 185, 186, 114, 115, 116, 181, 182, 183, 86, 87, 88, 187, 188, 189, 123, 124, 125, 193, 194, 195, 199, 200, 201, 175, 176, 177, 161, 162, 163, 164, 217, 218, 219, 220, 12, 25, 221, 222, 223, 224, 225, 226, 227, 228, 229, 230, 77, 15, 16, 17, 85, 84, 121, 78, 19, 22, 21, 62, 231, 232, 233, 234, 235, 236, 237, 51, 238, 239, 240, 241, 32, 242, 44, 243, 139, 140, 141, 142, 45, 70, 71, 72, 56, 57, 58, 59, 60, 61, 63, 244, 245, 246, 247, 248, 249, 250, 251, 252, 253, 254, 255, 256, 257, 258, 259, 260, 261, 262, 263, 264, 265, 266, 267, 268, 269, 270, 271, 272, 273, 274, 275, 276, 277, 278, 279, 280, 281, 282, 283, 284, 285, 286, 287, 288, 289, 290, 291, 292, 293, 294, 295, 296, 297, 298, 299, 300, 301, 302, 303] rfl (by decide +kernel)
set_option maxRecDepth 1000000 in
theorem gX11_runCycles_X11_happen : GoodIn wsX11_runCycles (wsV RX11 374 RX11 yX11_happen wsX11_happen) := goodIn_app (goodIn_of _ (by decide +kernel)) ggX11_runCycles_X11_happen
theorem dX11_runCycles_0 : decode cX11_runCycles 0 = .ok (.aload_n 0, 1) := by decide +kernel
theorem dX11_runCycles_1 : decode cX11_runCycles 1 = .ok (.iconst 0, 1) := by decide +kernel
theorem dX11_runCycles_2 : decode cX11_runCycles 2 = .ok (.putfield 49, 3) := by decide +kernel
theorem dX11_runCycles_5 : decode cX11_runCycles 5 = .ok (.iload_n 1, 1) := by decide +kernel
theorem dX11_runCycles_6 : decode cX11_runCycles 6 = .ok (.iconst 1, 1) := by decide +kernel
theorem dX11_runCycles_7 : decode cX11_runCycles 7 = .ok (.if_icmp .lt 22, 3) := by decide +kernel
theorem dX11_runCycles_10 : decode cX11_runCycles 10 = .ok (.iload_n 1, 1) := by decide +kernel
theorem dX11_runCycles_11 : decode cX11_runCycles 11 = .ok (.sipush 2000, 3) := by decide +kernel
theorem dX11_runCycles_14 : decode cX11_runCycles 14 = .ok (.if_icmp .gt 15, 3) := by decide +kernel
theorem dX11_runCycles_17 : decode cX11_runCycles 17 = .ok (.aload_n 0, 1) := by decide +kernel
theorem dX11_runCycles_18 : decode cX11_runCycles 18 = .ok (.getfield 75, 3) := by decide +kernel
theorem dX11_runCycles_21 : decode cX11_runCycles 21 = .ok (.iload_n 1, 1) := by decide +kernel
theorem dX11_runCycles_22 : decode cX11_runCycles 22 = .ok (.iadd, 1) := by decide +kernel
theorem dX11_runCycles_23 : decode cX11_runCycles 23 = .ok (.ldc_w 367, 3) := by decide +kernel
theorem dX11_runCycles_26 : decode cX11_runCycles 26 = .ok (.if_icmp .le 5, 3) := by decide +kernel
theorem dX11_runCycles_29 : decode cX11_runCycles 29 = .ok (.iconst (-1), 1) := by decide +kernel
theorem dX11_runCycles_30 : decode cX11_runCycles 30 = .ok (.ireturn, 1) := by decide +kernel
theorem dX11_runCycles_31 : decode cX11_runCycles 31 = .ok (.aload_n 0, 1) := by decide +kernel
theorem dX11_runCycles_32 : decode cX11_runCycles 32 = .ok (.dup, 1) := by decide +kernel
