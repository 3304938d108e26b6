theorem dLa_law_252 : decode cLa_law 252 = .ok (.iload 6, 2) := by decide +kernel
theorem dLa_law_254 : decode cLa_law 254 = .ok (.i2l, 1) := by decide +kernel
theorem dLa_law_255 : decode cLa_law 255 = .ok (.lcmp, 1) := by decide +kernel
theorem dLa_law_256 : decode cLa_law 256 = .ok (.ifCond .eq 5, 3) := by decide +kernel
theorem dLa_law_259 : decode cLa_law 259 = .ok (.iconst 0, 1) := by decide +kernel
theorem dLa_law_260 : decode cLa_law 260 = .ok (.ireturn, 1) := by decide +kernel
theorem dLa_law_261 : decode cLa_law 261 = .ok (.goto 719, 3) := by decide +kernel
theorem dLa_law_264 : decode cLa_law 264 = .ok (.aload_n 1, 1) := by decide +kernel
theorem dLa_law_265 : decode cLa_law 265 = .ok (.aload_n 0, 1) := by decide +kernel
theorem dLa_law_266 : decode cLa_law 266 = .ok (.iload 4, 2) := by decide +kernel
theorem dLa_law_268 : decode cLa_law 268 = .ok (.iconst 1, 1) := by decide +kernel
theorem dLa_law_269 : decode cLa_law 269 = .ok (.iadd, 1) := by decide +kernel
theorem dLa_law_270 : decode cLa_law 270 = .ok (.iaload, 1) := by decide +kernel
theorem dLa_law_271 : decode cLa_law 271 = .ok (.aload_n 0, 1) := by decide +kernel
theorem dLa_law_272 : decode cLa_law 272 = .ok (.iload 4, 2) := by decide +kernel
theorem dLa_law_274 : decode cLa_law 274 = .ok (.iconst 2, 1) := by decide +kernel
theorem dLa_law_275 : decode cLa_law 275 = .ok (.iadd, 1) := by decide +kernel
theorem dLa_law_276 : decode cLa_law 276 = .ok (.iaload, 1) := by decide +kernel
theorem dLa_law_277 : decode cLa_law 277 = .ok (.aload_n 3, 1) := by decide +kernel
theorem dLa_law_278 : decode cLa_law 278 = .ok (.invokestatic 80, 3) := by decide +kernel
theorem dLa_law_281 : decode cLa_law 281 = .ok (.istore 5, 2) := by decide +kernel
theorem dLa_law_283 : decode cLa_law 283 = .ok (.aload_n 2, 1) := by decide +kernel
theorem dLa_law_284 : decode cLa_law 284 = .ok (.aload_n 0, 1) := by decide +kernel
theorem dLa_law_285 : decode cLa_law 285 = .ok (.iload 4, 2) := by decide +kernel
theorem dLa_law_287 : decode cLa_law 287 = .ok (.iconst 1, 1) := by decide +kernel
theorem dLa_law_288 : decode cLa_law 288 = .ok (.iadd, 1) := by decide +kernel
theorem dLa_law_289 : decode cLa_law 289 = .ok (.iaload, 1) := by decide +kernel
theorem dLa_law_290 : decode cLa_law 290 = .ok (.aload_n 0, 1) := by decide +kernel
theorem dLa_law_291 : decode cLa_law 291 = .ok (.iload 4, 2) := by decide +kernel
theorem dLa_law_293 : decode cLa_law 293 = .ok (.iconst 2, 1) := by decide +kernel
theorem dLa_law_294 : decode cLa_law 294 = .ok (.iadd, 1) := by decide +kernel
theorem dLa_law_295 : decode cLa_law 295 = .ok (.iaload, 1) := by decide +kernel
theorem dLa_law_296 : decode cLa_law 296 = .ok (.invokevirtual 82, 3) := by decide +kernel
theorem dLa_law_299 : decode cLa_law 299 = .ok (.istore 6, 2) := by decide +kernel
theorem dLa_law_301 : decode cLa_law 301 = .ok (.aload_n 2, 1) := by decide +kernel
theorem dLa_law_302 : decode cLa_law 302 = .ok (.invokevirtual 68, 3) := by decide +kernel
theorem dLa_law_305 : decode cLa_law 305 = .ok (.iload 5, 2) := by decide +kernel
theorem dLa_law_307 : decode cLa_law 307 = .ok (.if_icmp .eq 5, 3) := by decide +kernel
theorem dLa_law_310 : decode cLa_law 310 = .ok (.iconst 0, 1) := by decide +kernel
theorem dLa_law_311 : decode cLa_law 311 = .ok (.ireturn, 1) := by decide +kernel
theorem dLa_law_312 : decode cLa_law 312 = .ok (.iload 5, 2) := by decide +kernel
theorem dLa_law_314 : decode cLa_law 314 = .ok (.ifCond .ne 15, 3) := by decide +kernel
theorem dLa_law_317 : decode cLa_law 317 = .ok (.aload_n 3, 1) := by decide +kernel
theorem dLa_law_318 : decode cLa_law 318 = .ok (.iconst 0, 1) := by decide +kernel
theorem dLa_law_319 : decode cLa_law 319 = .ok (.laload, 1) := by decide +kernel
theorem dLa_law_320 : decode cLa_law 320 = .ok (.iload 6, 2) := by decide +kernel
theorem dLa_law_322 : decode cLa_law 322 = .ok (.i2l, 1) := by decide +kernel
theorem dLa_law_323 : decode cLa_law 323 = .ok (.lcmp, 1) := by decide +kernel
theorem dLa_law_324 : decode cLa_law 324 = .ok (.ifCond .eq 5, 3) := by decide +kernel
theorem dLa_law_327 : decode cLa_law 327 = .ok (.iconst 0, 1) := by decide +kernel
theorem dLa_law_328 : decode cLa_law 328 = .ok (.ireturn, 1) := by decide +kernel
theorem dLa_law_329 : decode cLa_law 329 = .ok (.goto 651, 3) := by decide +kernel
theorem dLa_law_332 : decode cLa_law 332 = .ok (.aload_n 1, 1) := by decide +kernel
theorem dLa_law_333 : decode cLa_law 333 = .ok (.aload_n 0, 1) := by decide +kernel
theorem dLa_law_334 : decode cLa_law 334 = .ok (.iload 4, 2) := by decide +kernel
theorem dLa_law_336 : decode cLa_law 336 = .ok (.iconst 1, 1) := by decide +kernel
theorem dLa_law_337 : decode cLa_law 337 = .ok (.iadd, 1) := by decide +kernel
theorem dLa_law_338 : decode cLa_law 338 = .ok (.iaload, 1) := by decide +kernel
theorem dLa_law_339 : decode cLa_law 339 = .ok (.aload_n 0, 1) := by decide +kernel
theorem dLa_law_340 : decode cLa_law 340 = .ok (.iload 4, 2) := by decide +kernel
