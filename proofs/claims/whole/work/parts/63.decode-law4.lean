theorem xnd_LW_law_262 : decode xnc_LW_law 262 = .ok (.iconst 0, 1) := by decide +kernel
theorem xnd_LW_law_263 : decode xnc_LW_law 263 = .ok (.ireturn, 1) := by decide +kernel
theorem xnd_LW_law_264 : decode xnc_LW_law 264 = .ok (.aload_n 1, 1) := by decide +kernel
theorem xnd_LW_law_265 : decode xnc_LW_law 265 = .ok (.aload_n 0, 1) := by decide +kernel
theorem xnd_LW_law_266 : decode xnc_LW_law 266 = .ok (.iload_n 3, 1) := by decide +kernel
theorem xnd_LW_law_267 : decode xnc_LW_law 267 = .ok (.iconst 1, 1) := by decide +kernel
theorem xnd_LW_law_268 : decode xnc_LW_law 268 = .ok (.iadd, 1) := by decide +kernel
theorem xnd_LW_law_269 : decode xnc_LW_law 269 = .ok (.iaload, 1) := by decide +kernel
theorem xnd_LW_law_270 : decode xnc_LW_law 270 = .ok (.invokevirtual 41, 3) := by decide +kernel
theorem xnd_LW_law_273 : decode xnc_LW_law 273 = .ok (.aload_n 2, 1) := by decide +kernel
theorem xnd_LW_law_274 : decode xnc_LW_law 274 = .ok (.aload_n 0, 1) := by decide +kernel
theorem xnd_LW_law_275 : decode xnc_LW_law 275 = .ok (.iload_n 3, 1) := by decide +kernel
theorem xnd_LW_law_276 : decode xnc_LW_law 276 = .ok (.iconst 1, 1) := by decide +kernel
theorem xnd_LW_law_277 : decode xnc_LW_law 277 = .ok (.iadd, 1) := by decide +kernel
theorem xnd_LW_law_278 : decode xnc_LW_law 278 = .ok (.iaload, 1) := by decide +kernel
theorem xnd_LW_law_279 : decode xnc_LW_law 279 = .ok (.invokevirtual 44, 3) := by decide +kernel
theorem xnd_LW_law_282 : decode xnc_LW_law 282 = .ok (.if_icmp .eq 268, 3) := by decide +kernel
theorem xnd_LW_law_285 : decode xnc_LW_law 285 = .ok (.iconst 0, 1) := by decide +kernel
theorem xnd_LW_law_286 : decode xnc_LW_law 286 = .ok (.ireturn, 1) := by decide +kernel
theorem xnd_LW_law_287 : decode xnc_LW_law 287 = .ok (.aload_n 1, 1) := by decide +kernel
theorem xnd_LW_law_288 : decode xnc_LW_law 288 = .ok (.aload_n 0, 1) := by decide +kernel
theorem xnd_LW_law_289 : decode xnc_LW_law 289 = .ok (.iload_n 3, 1) := by decide +kernel
theorem xnd_LW_law_290 : decode xnc_LW_law 290 = .ok (.iconst 1, 1) := by decide +kernel
theorem xnd_LW_law_291 : decode xnc_LW_law 291 = .ok (.iadd, 1) := by decide +kernel
theorem xnd_LW_law_292 : decode xnc_LW_law 292 = .ok (.iaload, 1) := by decide +kernel
theorem xnd_LW_law_293 : decode xnc_LW_law 293 = .ok (.invokevirtual 45, 3) := by decide +kernel
theorem xnd_LW_law_296 : decode xnc_LW_law 296 = .ok (.aload_n 2, 1) := by decide +kernel
theorem xnd_LW_law_297 : decode xnc_LW_law 297 = .ok (.aload_n 0, 1) := by decide +kernel
theorem xnd_LW_law_298 : decode xnc_LW_law 298 = .ok (.iload_n 3, 1) := by decide +kernel
theorem xnd_LW_law_299 : decode xnc_LW_law 299 = .ok (.iconst 1, 1) := by decide +kernel
theorem xnd_LW_law_300 : decode xnc_LW_law 300 = .ok (.iadd, 1) := by decide +kernel
theorem xnd_LW_law_301 : decode xnc_LW_law 301 = .ok (.iaload, 1) := by decide +kernel
theorem xnd_LW_law_302 : decode xnc_LW_law 302 = .ok (.invokevirtual 48, 3) := by decide +kernel
theorem xnd_LW_law_305 : decode xnc_LW_law 305 = .ok (.if_icmp .eq 245, 3) := by decide +kernel
theorem xnd_LW_law_308 : decode xnc_LW_law 308 = .ok (.iconst 0, 1) := by decide +kernel
theorem xnd_LW_law_309 : decode xnc_LW_law 309 = .ok (.ireturn, 1) := by decide +kernel
theorem xnd_LW_law_310 : decode xnc_LW_law 310 = .ok (.aload_n 1, 1) := by decide +kernel
theorem xnd_LW_law_311 : decode xnc_LW_law 311 = .ok (.aload_n 0, 1) := by decide +kernel
theorem xnd_LW_law_312 : decode xnc_LW_law 312 = .ok (.iload_n 3, 1) := by decide +kernel
theorem xnd_LW_law_313 : decode xnc_LW_law 313 = .ok (.iconst 1, 1) := by decide +kernel
theorem xnd_LW_law_314 : decode xnc_LW_law 314 = .ok (.iadd, 1) := by decide +kernel
theorem xnd_LW_law_315 : decode xnc_LW_law 315 = .ok (.iaload, 1) := by decide +kernel
theorem xnd_LW_law_316 : decode xnc_LW_law 316 = .ok (.invokevirtual 49, 3) := by decide +kernel
theorem xnd_LW_law_319 : decode xnc_LW_law 319 = .ok (.aload_n 2, 1) := by decide +kernel
theorem xnd_LW_law_320 : decode xnc_LW_law 320 = .ok (.aload_n 0, 1) := by decide +kernel
theorem xnd_LW_law_321 : decode xnc_LW_law 321 = .ok (.iload_n 3, 1) := by decide +kernel
theorem xnd_LW_law_322 : decode xnc_LW_law 322 = .ok (.iconst 1, 1) := by decide +kernel
theorem xnd_LW_law_323 : decode xnc_LW_law 323 = .ok (.iadd, 1) := by decide +kernel
theorem xnd_LW_law_324 : decode xnc_LW_law 324 = .ok (.iaload, 1) := by decide +kernel
theorem xnd_LW_law_325 : decode xnc_LW_law 325 = .ok (.invokevirtual 52, 3) := by decide +kernel
