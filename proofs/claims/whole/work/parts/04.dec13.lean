theorem d_L_law_239 : decode b_L_law 239 = .ok (.iadd, 1) := by decide +kernel
theorem d_L_law_240 : decode b_L_law 240 = .ok (.iaload, 1) := by decide +kernel
theorem d_L_law_241 : decode b_L_law 241 = .ok (.invokevirtual 63, 3) := by decide +kernel
theorem d_L_law_244 : decode b_L_law 244 = .ok (.istore 6, 2) := by decide +kernel
theorem d_L_law_246 : decode b_L_law 246 = .ok (.aload_n 2, 1) := by decide +kernel
theorem d_L_law_247 : decode b_L_law 247 = .ok (.invokevirtual 52, 3) := by decide +kernel
theorem d_L_law_250 : decode b_L_law 250 = .ok (.iload 5, 2) := by decide +kernel
theorem d_L_law_252 : decode b_L_law 252 = .ok (.if_icmp .eq 5, 3) := by decide +kernel
theorem d_L_law_255 : decode b_L_law 255 = .ok (.iconst 0, 1) := by decide +kernel
theorem d_L_law_256 : decode b_L_law 256 = .ok (.ireturn, 1) := by decide +kernel
theorem d_L_law_257 : decode b_L_law 257 = .ok (.iload 5, 2) := by decide +kernel
theorem d_L_law_259 : decode b_L_law 259 = .ok (.ifCond .ne 15, 3) := by decide +kernel
theorem d_L_law_262 : decode b_L_law 262 = .ok (.aload_n 3, 1) := by decide +kernel
theorem d_L_law_263 : decode b_L_law 263 = .ok (.iconst 0, 1) := by decide +kernel
theorem d_L_law_264 : decode b_L_law 264 = .ok (.laload, 1) := by decide +kernel
theorem d_L_law_265 : decode b_L_law 265 = .ok (.iload 6, 2) := by decide +kernel
theorem d_L_law_267 : decode b_L_law 267 = .ok (.i2l, 1) := by decide +kernel
theorem d_L_law_268 : decode b_L_law 268 = .ok (.lcmp, 1) := by decide +kernel
theorem d_L_law_269 : decode b_L_law 269 = .ok (.ifCond .eq 5, 3) := by decide +kernel
theorem d_L_law_272 : decode b_L_law 272 = .ok (.iconst 0, 1) := by decide +kernel
theorem d_L_law_273 : decode b_L_law 273 = .ok (.ireturn, 1) := by decide +kernel
theorem d_L_law_274 : decode b_L_law 274 = .ok (.goto 439, 3) := by decide +kernel
theorem d_L_law_277 : decode b_L_law 277 = .ok (.aload_n 1, 1) := by decide +kernel
theorem d_L_law_278 : decode b_L_law 278 = .ok (.aload_n 3, 1) := by decide +kernel
theorem d_L_law_279 : decode b_L_law 279 = .ok (.invokestatic 64, 3) := by decide +kernel
theorem d_L_law_282 : decode b_L_law 282 = .ok (.istore 5, 2) := by decide +kernel
theorem d_L_law_284 : decode b_L_law 284 = .ok (.aload_n 2, 1) := by decide +kernel
theorem d_L_law_285 : decode b_L_law 285 = .ok (.invokevirtual 67, 3) := by decide +kernel
theorem d_L_law_288 : decode b_L_law 288 = .ok (.istore 6, 2) := by decide +kernel
theorem d_L_law_290 : decode b_L_law 290 = .ok (.aload_n 2, 1) := by decide +kernel
theorem d_L_law_291 : decode b_L_law 291 = .ok (.invokevirtual 52, 3) := by decide +kernel
theorem d_L_law_294 : decode b_L_law 294 = .ok (.iload 5, 2) := by decide +kernel
theorem d_L_law_296 : decode b_L_law 296 = .ok (.if_icmp .eq 5, 3) := by decide +kernel
theorem d_L_law_299 : decode b_L_law 299 = .ok (.iconst 0, 1) := by decide +kernel
theorem d_L_law_300 : decode b_L_law 300 = .ok (.ireturn, 1) := by decide +kernel
theorem d_L_law_301 : decode b_L_law 301 = .ok (.iload 5, 2) := by decide +kernel
theorem d_L_law_303 : decode b_L_law 303 = .ok (.ifCond .ne 15, 3) := by decide +kernel
theorem d_L_law_306 : decode b_L_law 306 = .ok (.aload_n 3, 1) := by decide +kernel
theorem d_L_law_307 : decode b_L_law 307 = .ok (.iconst 0, 1) := by decide +kernel
theorem d_L_law_308 : decode b_L_law 308 = .ok (.laload, 1) := by decide +kernel
theorem d_L_law_309 : decode b_L_law 309 = .ok (.iload 6, 2) := by decide +kernel
theorem d_L_law_311 : decode b_L_law 311 = .ok (.i2l, 1) := by decide +kernel
theorem d_L_law_312 : decode b_L_law 312 = .ok (.lcmp, 1) := by decide +kernel
theorem d_L_law_313 : decode b_L_law 313 = .ok (.ifCond .eq 5, 3) := by decide +kernel
theorem d_L_law_316 : decode b_L_law 316 = .ok (.iconst 0, 1) := by decide +kernel
theorem d_L_law_317 : decode b_L_law 317 = .ok (.ireturn, 1) := by decide +kernel
theorem d_L_law_318 : decode b_L_law 318 = .ok (.goto 395, 3) := by decide +kernel
theorem d_L_law_321 : decode b_L_law 321 = .ok (.aload_n 1, 1) := by decide +kernel
theorem d_L_law_322 : decode b_L_law 322 = .ok (.aload_n 0, 1) := by decide +kernel
theorem d_L_law_323 : decode b_L_law 323 = .ok (.iload 4, 2) := by decide +kernel
theorem d_L_law_325 : decode b_L_law 325 = .ok (.iconst 1, 1) := by decide +kernel
theorem d_L_law_326 : decode b_L_law 326 = .ok (.iadd, 1) := by decide +kernel
theorem d_L_law_327 : decode b_L_law 327 = .ok (.iaload, 1) := by decide +kernel
theorem d_L_law_328 : decode b_L_law 328 = .ok (.invokevirtual 68, 3) := by decide +kernel
theorem d_L_law_331 : decode b_L_law 331 = .ok (.aload_n 2, 1) := by decide +kernel
theorem d_L_law_332 : decode b_L_law 332 = .ok (.aload_n 0, 1) := by decide +kernel
theorem d_L_law_333 : decode b_L_law 333 = .ok (.iload 4, 2) := by decide +kernel
theorem d_L_law_335 : decode b_L_law 335 = .ok (.iconst 1, 1) := by decide +kernel
theorem d_L_law_336 : decode b_L_law 336 = .ok (.iadd, 1) := by decide +kernel
theorem d_L_law_337 : decode b_L_law 337 = .ok (.iaload, 1) := by decide +kernel
