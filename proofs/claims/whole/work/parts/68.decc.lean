theorem d_LA_law_255 : decode code 255 = .ok (.iaload, 1) := by decide +kernel
theorem d_LA_law_256 : decode code 256 = .ok (.invokevirtual 81, 3) := by decide +kernel
theorem d_LA_law_259 : decode code 259 = .ok (.istore 6, 2) := by decide +kernel
theorem d_LA_law_261 : decode code 261 = .ok (.aload_n 2, 1) := by decide +kernel
theorem d_LA_law_262 : decode code 262 = .ok (.invokevirtual 74, 3) := by decide +kernel
theorem d_LA_law_265 : decode code 265 = .ok (.iload 5, 2) := by decide +kernel
theorem d_LA_law_267 : decode code 267 = .ok (.if_icmp .eq 5, 3) := by decide +kernel
theorem d_LA_law_272 : decode code 272 = .ok (.iload 5, 2) := by decide +kernel
theorem d_LA_law_274 : decode code 274 = .ok (.ifCond .ne 15, 3) := by decide +kernel
theorem d_LA_law_277 : decode code 277 = .ok (.aload_n 3, 1) := by decide +kernel
theorem d_LA_law_278 : decode code 278 = .ok (.iconst 0, 1) := by decide +kernel
theorem d_LA_law_279 : decode code 279 = .ok (.laload, 1) := by decide +kernel
theorem d_LA_law_280 : decode code 280 = .ok (.iload 6, 2) := by decide +kernel
theorem d_LA_law_282 : decode code 282 = .ok (.i2l, 1) := by decide +kernel
theorem d_LA_law_283 : decode code 283 = .ok (.lcmp, 1) := by decide +kernel
theorem d_LA_law_284 : decode code 284 = .ok (.ifCond .eq 5, 3) := by decide +kernel
theorem d_LA_law_289 : decode code 289 = .ok (.goto 819, 3) := by decide +kernel
theorem d_LA_law_292 : decode code 292 = .ok (.aload_n 1, 1) := by decide +kernel
theorem d_LA_law_293 : decode code 293 = .ok (.aload_n 0, 1) := by decide +kernel
theorem d_LA_law_294 : decode code 294 = .ok (.iload 4, 2) := by decide +kernel
theorem d_LA_law_296 : decode code 296 = .ok (.iconst 1, 1) := by decide +kernel
theorem d_LA_law_297 : decode code 297 = .ok (.iadd, 1) := by decide +kernel
theorem d_LA_law_298 : decode code 298 = .ok (.iaload, 1) := by decide +kernel
theorem d_LA_law_299 : decode code 299 = .ok (.aload_n 0, 1) := by decide +kernel
theorem d_LA_law_300 : decode code 300 = .ok (.iload 4, 2) := by decide +kernel
theorem d_LA_law_302 : decode code 302 = .ok (.iconst 2, 1) := by decide +kernel
theorem d_LA_law_303 : decode code 303 = .ok (.iadd, 1) := by decide +kernel
theorem d_LA_law_304 : decode code 304 = .ok (.iaload, 1) := by decide +kernel
theorem d_LA_law_305 : decode code 305 = .ok (.aload_n 3, 1) := by decide +kernel
theorem d_LA_law_306 : decode code 306 = .ok (.invokestatic 82, 3) := by decide +kernel
theorem d_LA_law_309 : decode code 309 = .ok (.istore 5, 2) := by decide +kernel
theorem d_LA_law_311 : decode code 311 = .ok (.aload_n 2, 1) := by decide +kernel
theorem d_LA_law_312 : decode code 312 = .ok (.aload_n 0, 1) := by decide +kernel
theorem d_LA_law_313 : decode code 313 = .ok (.iload 4, 2) := by decide +kernel
theorem d_LA_law_315 : decode code 315 = .ok (.iconst 1, 1) := by decide +kernel
theorem d_LA_law_316 : decode code 316 = .ok (.iadd, 1) := by decide +kernel
theorem d_LA_law_317 : decode code 317 = .ok (.iaload, 1) := by decide +kernel
theorem d_LA_law_318 : decode code 318 = .ok (.aload_n 0, 1) := by decide +kernel
theorem d_LA_law_319 : decode code 319 = .ok (.iload 4, 2) := by decide +kernel
theorem d_LA_law_321 : decode code 321 = .ok (.iconst 2, 1) := by decide +kernel
theorem d_LA_law_322 : decode code 322 = .ok (.iadd, 1) := by decide +kernel
theorem d_LA_law_323 : decode code 323 = .ok (.iaload, 1) := by decide +kernel
theorem d_LA_law_324 : decode code 324 = .ok (.invokevirtual 85, 3) := by decide +kernel
theorem d_LA_law_327 : decode code 327 = .ok (.istore 6, 2) := by decide +kernel
theorem d_LA_law_329 : decode code 329 = .ok (.aload_n 2, 1) := by decide +kernel
theorem d_LA_law_330 : decode code 330 = .ok (.invokevirtual 74, 3) := by decide +kernel
theorem d_LA_law_333 : decode code 333 = .ok (.iload 5, 2) := by decide +kernel
theorem d_LA_law_335 : decode code 335 = .ok (.if_icmp .eq 5, 3) := by decide +kernel
theorem d_LA_law_340 : decode code 340 = .ok (.iload 5, 2) := by decide +kernel
theorem d_LA_law_342 : decode code 342 = .ok (.ifCond .ne 15, 3) := by decide +kernel
theorem d_LA_law_345 : decode code 345 = .ok (.aload_n 3, 1) := by decide +kernel
theorem d_LA_law_346 : decode code 346 = .ok (.iconst 0, 1) := by decide +kernel
theorem d_LA_law_347 : decode code 347 = .ok (.laload, 1) := by decide +kernel
theorem d_LA_law_348 : decode code 348 = .ok (.iload 6, 2) := by decide +kernel
theorem d_LA_law_350 : decode code 350 = .ok (.i2l, 1) := by decide +kernel
theorem d_LA_law_351 : decode code 351 = .ok (.lcmp, 1) := by decide +kernel
theorem d_LA_law_352 : decode code 352 = .ok (.ifCond .eq 5, 3) := by decide +kernel
theorem d_LA_law_357 : decode code 357 = .ok (.goto 751, 3) := by decide +kernel
theorem d_LA_law_360 : decode code 360 = .ok (.aload_n 1, 1) := by decide +kernel
theorem d_LA_law_361 : decode code 361 = .ok (.aload_n 0, 1) := by decide +kernel
