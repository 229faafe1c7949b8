theorem zd_W_law_280 : decode code 280 = .ok (.aload_n 0, 1) := by decide +kernel
theorem zd_W_law_281 : decode code 281 = .ok (.iload_n 3, 1) := by decide +kernel
theorem zd_W_law_282 : decode code 282 = .ok (.iconst 1, 1) := by decide +kernel
theorem zd_W_law_283 : decode code 283 = .ok (.iadd, 1) := by decide +kernel
theorem zd_W_law_284 : decode code 284 = .ok (.iaload, 1) := by decide +kernel
theorem zd_W_law_285 : decode code 285 = .ok (.aload_n 0, 1) := by decide +kernel
theorem zd_W_law_286 : decode code 286 = .ok (.iload_n 3, 1) := by decide +kernel
theorem zd_W_law_287 : decode code 287 = .ok (.iconst 2, 1) := by decide +kernel
theorem zd_W_law_288 : decode code 288 = .ok (.iadd, 1) := by decide +kernel
theorem zd_W_law_289 : decode code 289 = .ok (.iaload, 1) := by decide +kernel
theorem zd_W_law_290 : decode code 290 = .ok (.invokevirtual 39, 3) := by decide +kernel
theorem zd_W_law_293 : decode code 293 = .ok (.if_icmp .eq 351, 3) := by decide +kernel
theorem zd_W_law_296 : decode code 296 = .ok (.iconst 0, 1) := by decide +kernel
theorem zd_W_law_297 : decode code 297 = .ok (.ireturn, 1) := by decide +kernel
theorem zd_W_law_298 : decode code 298 = .ok (.aload_n 1, 1) := by decide +kernel
theorem zd_W_law_299 : decode code 299 = .ok (.aload_n 0, 1) := by decide +kernel
theorem zd_W_law_300 : decode code 300 = .ok (.iload_n 3, 1) := by decide +kernel
theorem zd_W_law_301 : decode code 301 = .ok (.iconst 1, 1) := by decide +kernel
theorem zd_W_law_302 : decode code 302 = .ok (.iadd, 1) := by decide +kernel
theorem zd_W_law_303 : decode code 303 = .ok (.iaload, 1) := by decide +kernel
theorem zd_W_law_304 : decode code 304 = .ok (.aload_n 0, 1) := by decide +kernel
theorem zd_W_law_305 : decode code 305 = .ok (.iload_n 3, 1) := by decide +kernel
theorem zd_W_law_306 : decode code 306 = .ok (.iconst 2, 1) := by decide +kernel
theorem zd_W_law_307 : decode code 307 = .ok (.iadd, 1) := by decide +kernel
theorem zd_W_law_308 : decode code 308 = .ok (.iaload, 1) := by decide +kernel
theorem zd_W_law_309 : decode code 309 = .ok (.invokevirtual 40, 3) := by decide +kernel
theorem zd_W_law_312 : decode code 312 = .ok (.aload_n 2, 1) := by decide +kernel
theorem zd_W_law_313 : decode code 313 = .ok (.aload_n 0, 1) := by decide +kernel
theorem zd_W_law_314 : decode code 314 = .ok (.iload_n 3, 1) := by decide +kernel
theorem zd_W_law_315 : decode code 315 = .ok (.iconst 1, 1) := by decide +kernel
theorem zd_W_law_316 : decode code 316 = .ok (.iadd, 1) := by decide +kernel
theorem zd_W_law_317 : decode code 317 = .ok (.iaload, 1) := by decide +kernel
theorem zd_W_law_318 : decode code 318 = .ok (.aload_n 0, 1) := by decide +kernel
theorem zd_W_law_319 : decode code 319 = .ok (.iload_n 3, 1) := by decide +kernel
theorem zd_W_law_320 : decode code 320 = .ok (.iconst 2, 1) := by decide +kernel
theorem zd_W_law_321 : decode code 321 = .ok (.iadd, 1) := by decide +kernel
theorem zd_W_law_322 : decode code 322 = .ok (.iaload, 1) := by decide +kernel
theorem zd_W_law_323 : decode code 323 = .ok (.invokevirtual 44, 3) := by decide +kernel
theorem zd_W_law_326 : decode code 326 = .ok (.if_icmp .eq 318, 3) := by decide +kernel
theorem zd_W_law_329 : decode code 329 = .ok (.iconst 0, 1) := by decide +kernel
theorem zd_W_law_330 : decode code 330 = .ok (.ireturn, 1) := by decide +kernel
theorem zd_W_law_331 : decode code 331 = .ok (.aload_n 1, 1) := by decide +kernel
theorem zd_W_law_332 : decode code 332 = .ok (.invokevirtual 45, 3) := by decide +kernel
theorem zd_W_law_335 : decode code 335 = .ok (.aload_n 2, 1) := by decide +kernel
theorem zd_W_law_336 : decode code 336 = .ok (.invokevirtual 48, 3) := by decide +kernel
theorem zd_W_law_339 : decode code 339 = .ok (.if_icmp .eq 305, 3) := by decide +kernel
theorem zd_W_law_342 : decode code 342 = .ok (.iconst 0, 1) := by decide +kernel
theorem zd_W_law_343 : decode code 343 = .ok (.ireturn, 1) := by decide +kernel
theorem zd_W_law_344 : decode code 344 = .ok (.aload_n 1, 1) := by decide +kernel
theorem zd_W_law_345 : decode code 345 = .ok (.aload_n 0, 1) := by decide +kernel
