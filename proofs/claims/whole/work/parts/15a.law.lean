theorem dL_law_0 : decode cL_law 0 = .ok (.new 7, 3) := by decide +kernel
theorem dL_law_3 : decode cL_law 3 = .ok (.dup, 1) := by decide +kernel
theorem dL_law_4 : decode cL_law 4 = .ok (.invokespecial 9, 3) := by decide +kernel
theorem dL_law_7 : decode cL_law 7 = .ok (.astore_n 1, 1) := by decide +kernel
theorem dL_law_8 : decode cL_law 8 = .ok (.new 10, 3) := by decide +kernel
theorem dL_law_11 : decode cL_law 11 = .ok (.dup, 1) := by decide +kernel
theorem dL_law_12 : decode cL_law 12 = .ok (.invokespecial 12, 3) := by decide +kernel
theorem dL_law_15 : decode cL_law 15 = .ok (.astore_n 2, 1) := by decide +kernel
theorem dL_law_16 : decode cL_law 16 = .ok (.iconst 0, 1) := by decide +kernel
theorem dL_law_17 : decode cL_law 17 = .ok (.istore_n 3, 1) := by decide +kernel
theorem dL_law_18 : decode cL_law 18 = .ok (.iload_n 3, 1) := by decide +kernel
theorem dL_law_19 : decode cL_law 19 = .ok (.aload_n 0, 1) := by decide +kernel
theorem dL_law_20 : decode cL_law 20 = .ok (.arraylength, 1) := by decide +kernel
theorem dL_law_21 : decode cL_law 21 = .ok (.bipush 6, 2) := by decide +kernel
theorem dL_law_23 : decode cL_law 23 = .ok (.isub, 1) := by decide +kernel
theorem dL_law_24 : decode cL_law 24 = .ok (.if_icmp .gt 984, 3) := by decide +kernel
theorem dL_law_27 : decode cL_law 27 = .ok (.aload_n 0, 1) := by decide +kernel
theorem dL_law_28 : decode cL_law 28 = .ok (.iload_n 3, 1) := by decide +kernel
theorem dL_law_29 : decode cL_law 29 = .ok (.iaload, 1) := by decide +kernel
theorem dL_law_30 : decode cL_law 30 = .ok (.bipush 31, 2) := by decide +kernel
theorem dL_law_32 : decode cL_law 32 = .ok (.iand, 1) := by decide +kernel
theorem dL_law_33 : decode cL_law 33 = .ok (.tableswitch 969 0 31 #[143, 166, 179, 192, 205, 238, 271, 304, 337, 360, 373, 396, 419, 442, 465, 478, 491, 514, 537, 550, 593, 606, 619, 632, 675, 728, 771, 834, 867, 900, 923, 946], 143) := by decide +kernel
theorem dL_law_176 : decode cL_law 176 = .ok (.aload_n 1, 1) := by decide +kernel
theorem dL_law_177 : decode cL_law 177 = .ok (.aload_n 0, 1) := by decide +kernel
theorem dL_law_178 : decode cL_law 178 = .ok (.iload_n 3, 1) := by decide +kernel
theorem dL_law_179 : decode cL_law 179 = .ok (.iconst 1, 1) := by decide +kernel
theorem dL_law_180 : decode cL_law 180 = .ok (.iadd, 1) := by decide +kernel
theorem dL_law_181 : decode cL_law 181 = .ok (.iaload, 1) := by decide +kernel
theorem dL_law_182 : decode cL_law 182 = .ok (.invokevirtual 13, 3) := by decide +kernel
theorem dL_law_185 : decode cL_law 185 = .ok (.aload_n 2, 1) := by decide +kernel
theorem dL_law_186 : decode cL_law 186 = .ok (.aload_n 0, 1) := by decide +kernel
theorem dL_law_187 : decode cL_law 187 = .ok (.iload_n 3, 1) := by decide +kernel
theorem dL_law_188 : decode cL_law 188 = .ok (.iconst 1, 1) := by decide +kernel
theorem dL_law_189 : decode cL_law 189 = .ok (.iadd, 1) := by decide +kernel
theorem dL_law_190 : decode cL_law 190 = .ok (.iaload, 1) := by decide +kernel
theorem dL_law_191 : decode cL_law 191 = .ok (.invokevirtual 17, 3) := by decide +kernel
theorem dL_law_194 : decode cL_law 194 = .ok (.if_icmp .eq 808, 3) := by decide +kernel
theorem dL_law_197 : decode cL_law 197 = .ok (.iconst 0, 1) := by decide +kernel
theorem dL_law_198 : decode cL_law 198 = .ok (.ireturn, 1) := by decide +kernel
theorem dL_law_199 : decode cL_law 199 = .ok (.aload_n 1, 1) := by decide +kernel
theorem dL_law_200 : decode cL_law 200 = .ok (.invokevirtual 18, 3) := by decide +kernel
theorem dL_law_203 : decode cL_law 203 = .ok (.aload_n 2, 1) := by decide +kernel
theorem dL_law_204 : decode cL_law 204 = .ok (.invokevirtual 22, 3) := by decide +kernel
theorem dL_law_207 : decode cL_law 207 = .ok (.if_icmp .eq 795, 3) := by decide +kernel
theorem dL_law_210 : decode cL_law 210 = .ok (.iconst 0, 1) := by decide +kernel
theorem dL_law_211 : decode cL_law 211 = .ok (.ireturn, 1) := by decide +kernel
theorem dL_law_212 : decode cL_law 212 = .ok (.aload_n 1, 1) := by decide +kernel
theorem dL_law_213 : decode cL_law 213 = .ok (.invokevirtual 23, 3) := by decide +kernel
theorem dL_law_216 : decode cL_law 216 = .ok (.aload_n 2, 1) := by decide +kernel
theorem dL_law_217 : decode cL_law 217 = .ok (.invokevirtual 26, 3) := by decide +kernel
theorem dL_law_220 : decode cL_law 220 = .ok (.if_icmp .eq 782, 3) := by decide +kernel
theorem dL_law_223 : decode cL_law 223 = .ok (.iconst 0, 1) := by decide +kernel
theorem dL_law_224 : decode cL_law 224 = .ok (.ireturn, 1) := by decide +kernel
theorem dL_law_225 : decode cL_law 225 = .ok (.aload_n 1, 1) := by decide +kernel
theorem dL_law_226 : decode cL_law 226 = .ok (.invokevirtual 27, 3) := by decide +kernel
theorem dL_law_229 : decode cL_law 229 = .ok (.aload_n 2, 1) := by decide +kernel
theorem dL_law_230 : decode cL_law 230 = .ok (.invokevirtual 30, 3) := by decide +kernel
theorem dL_law_233 : decode cL_law 233 = .ok (.if_icmp .eq 769, 3) := by decide +kernel
theorem dL_law_236 : decode cL_law 236 = .ok (.iconst 0, 1) := by decide +kernel
theorem dL_law_237 : decode cL_law 237 = .ok (.ireturn, 1) := by decide +kernel
theorem dL_law_238 : decode cL_law 238 = .ok (.aload_n 1, 1) := by decide +kernel
theorem dL_law_239 : decode cL_law 239 = .ok (.aload_n 0, 1) := by decide +kernel
theorem dL_law_240 : decode cL_law 240 = .ok (.iload_n 3, 1) := by decide +kernel
theorem dL_law_241 : decode cL_law 241 = .ok (.iconst 1, 1) := by decide +kernel
theorem dL_law_242 : decode cL_law 242 = .ok (.iadd, 1) := by decide +kernel
theorem dL_law_243 : decode cL_law 243 = .ok (.iaload, 1) := by decide +kernel
theorem dL_law_244 : decode cL_law 244 = .ok (.aload_n 0, 1) := by decide +kernel
theorem dL_law_245 : decode cL_law 245 = .ok (.iload_n 3, 1) := by decide +kernel
theorem dL_law_246 : decode cL_law 246 = .ok (.iconst 2, 1) := by decide +kernel
theorem dL_law_247 : decode cL_law 247 = .ok (.iadd, 1) := by decide +kernel
theorem dL_law_248 : decode cL_law 248 = .ok (.iaload, 1) := by decide +kernel
theorem dL_law_249 : decode cL_law 249 = .ok (.invokevirtual 31, 3) := by decide +kernel
theorem dL_law_252 : decode cL_law 252 = .ok (.aload_n 2, 1) := by decide +kernel
theorem dL_law_253 : decode cL_law 253 = .ok (.aload_n 0, 1) := by decide +kernel
theorem dL_law_254 : decode cL_law 254 = .ok (.iload_n 3, 1) := by decide +kernel
theorem dL_law_255 : decode cL_law 255 = .ok (.iconst 1, 1) := by decide +kernel
theorem dL_law_256 : decode cL_law 256 = .ok (.iadd, 1) := by decide +kernel
theorem dL_law_257 : decode cL_law 257 = .ok (.iaload, 1) := by decide +kernel
theorem dL_law_258 : decode cL_law 258 = .ok (.aload_n 0, 1) := by decide +kernel
theorem dL_law_259 : decode cL_law 259 = .ok (.iload_n 3, 1) := by decide +kernel
theorem dL_law_260 : decode cL_law 260 = .ok (.iconst 2, 1) := by decide +kernel
theorem dL_law_261 : decode cL_law 261 = .ok (.iadd, 1) := by decide +kernel
theorem dL_law_262 : decode cL_law 262 = .ok (.iaload, 1) := by decide +kernel
theorem dL_law_263 : decode cL_law 263 = .ok (.invokevirtual 35, 3) := by decide +kernel
theorem dL_law_266 : decode cL_law 266 = .ok (.if_icmp .eq 736, 3) := by decide +kernel
theorem dL_law_269 : decode cL_law 269 = .ok (.iconst 0, 1) := by decide +kernel
theorem dL_law_270 : decode cL_law 270 = .ok (.ireturn, 1) := by decide +kernel
theorem dL_law_271 : decode cL_law 271 = .ok (.aload_n 1, 1) := by decide +kernel
theorem dL_law_272 : decode cL_law 272 = .ok (.aload_n 0, 1) := by decide +kernel
theorem dL_law_273 : decode cL_law 273 = .ok (.iload_n 3, 1) := by decide +kernel
theorem dL_law_274 : decode cL_law 274 = .ok (.iconst 1, 1) := by decide +kernel
theorem dL_law_275 : decode cL_law 275 = .ok (.iadd, 1) := by decide +kernel
theorem dL_law_276 : decode cL_law 276 = .ok (.iaload, 1) := by decide +kernel
theorem dL_law_277 : decode cL_law 277 = .ok (.aload_n 0, 1) := by decide +kernel
theorem dL_law_278 : decode cL_law 278 = .ok (.iload_n 3, 1) := by decide +kernel
theorem dL_law_279 : decode cL_law 279 = .ok (.iconst 2, 1) := by decide +kernel
theorem dL_law_280 : decode cL_law 280 = .ok (.iadd, 1) := by decide +kernel
theorem dL_law_281 : decode cL_law 281 = .ok (.iaload, 1) := by decide +kernel
theorem dL_law_282 : decode cL_law 282 = .ok (.invokevirtual 36, 3) := by decide +kernel
theorem dL_law_285 : decode cL_law 285 = .ok (.aload_n 2, 1) := by decide +kernel
theorem dL_law_286 : decode cL_law 286 = .ok (.aload_n 0, 1) := by decide +kernel
theorem dL_law_287 : decode cL_law 287 = .ok (.iload_n 3, 1) := by decide +kernel
theorem dL_law_288 : decode cL_law 288 = .ok (.iconst 1, 1) := by decide +kernel
theorem dL_law_289 : decode cL_law 289 = .ok (.iadd, 1) := by decide +kernel
theorem dL_law_290 : decode cL_law 290 = .ok (.iaload, 1) := by decide +kernel
theorem dL_law_291 : decode cL_law 291 = .ok (.aload_n 0, 1) := by decide +kernel
theorem dL_law_292 : decode cL_law 292 = .ok (.iload_n 3, 1) := by decide +kernel
theorem dL_law_293 : decode cL_law 293 = .ok (.iconst 2, 1) := by decide +kernel
theorem dL_law_294 : decode cL_law 294 = .ok (.iadd, 1) := by decide +kernel
theorem dL_law_295 : decode cL_law 295 = .ok (.iaload, 1) := by decide +kernel
theorem dL_law_296 : decode cL_law 296 = .ok (.invokevirtual 39, 3) := by decide +kernel
theorem dL_law_299 : decode cL_law 299 = .ok (.if_icmp .eq 703, 3) := by decide +kernel
theorem dL_law_302 : decode cL_law 302 = .ok (.iconst 0, 1) := by decide +kernel
theorem dL_law_303 : decode cL_law 303 = .ok (.ireturn, 1) := by decide +kernel
theorem dL_law_304 : decode cL_law 304 = .ok (.aload_n 1, 1) := by decide +kernel
theorem dL_law_305 : decode cL_law 305 = .ok (.aload_n 0, 1) := by decide +kernel
theorem dL_law_306 : decode cL_law 306 = .ok (.iload_n 3, 1) := by decide +kernel
theorem dL_law_307 : decode cL_law 307 = .ok (.iconst 1, 1) := by decide +kernel
theorem dL_law_308 : decode cL_law 308 = .ok (.iadd, 1) := by decide +kernel
theorem dL_law_309 : decode cL_law 309 = .ok (.iaload, 1) := by decide +kernel
theorem dL_law_310 : decode cL_law 310 = .ok (.aload_n 0, 1) := by decide +kernel
theorem dL_law_311 : decode cL_law 311 = .ok (.iload_n 3, 1) := by decide +kernel
theorem dL_law_312 : decode cL_law 312 = .ok (.iconst 2, 1) := by decide +kernel
theorem dL_law_313 : decode cL_law 313 = .ok (.iadd, 1) := by decide +kernel
theorem dL_law_314 : decode cL_law 314 = .ok (.iaload, 1) := by decide +kernel
theorem dL_law_315 : decode cL_law 315 = .ok (.invokevirtual 40, 3) := by decide +kernel
theorem dL_law_318 : decode cL_law 318 = .ok (.aload_n 2, 1) := by decide +kernel
theorem dL_law_319 : decode cL_law 319 = .ok (.aload_n 0, 1) := by decide +kernel
theorem dL_law_320 : decode cL_law 320 = .ok (.iload_n 3, 1) := by decide +kernel
theorem dL_law_321 : decode cL_law 321 = .ok (.iconst 1, 1) := by decide +kernel
theorem dL_law_322 : decode cL_law 322 = .ok (.iadd, 1) := by decide +kernel
theorem dL_law_323 : decode cL_law 323 = .ok (.iaload, 1) := by decide +kernel
theorem dL_law_324 : decode cL_law 324 = .ok (.aload_n 0, 1) := by decide +kernel
theorem dL_law_325 : decode cL_law 325 = .ok (.iload_n 3, 1) := by decide +kernel
theorem dL_law_326 : decode cL_law 326 = .ok (.iconst 2, 1) := by decide +kernel
theorem dL_law_327 : decode cL_law 327 = .ok (.iadd, 1) := by decide +kernel
theorem dL_law_328 : decode cL_law 328 = .ok (.iaload, 1) := by decide +kernel
theorem dL_law_329 : decode cL_law 329 = .ok (.invokevirtual 43, 3) := by decide +kernel
theorem dL_law_332 : decode cL_law 332 = .ok (.if_icmp .eq 670, 3) := by decide +kernel
theorem dL_law_335 : decode cL_law 335 = .ok (.iconst 0, 1) := by decide +kernel
theorem dL_law_336 : decode cL_law 336 = .ok (.ireturn, 1) := by decide +kernel
theorem dL_law_337 : decode cL_law 337 = .ok (.aload_n 1, 1) := by decide +kernel
theorem dL_law_338 : decode cL_law 338 = .ok (.aload_n 0, 1) := by decide +kernel
theorem dL_law_339 : decode cL_law 339 = .ok (.iload_n 3, 1) := by decide +kernel
theorem dL_law_340 : decode cL_law 340 = .ok (.iconst 1, 1) := by decide +kernel
theorem dL_law_341 : decode cL_law 341 = .ok (.iadd, 1) := by decide +kernel
theorem dL_law_342 : decode cL_law 342 = .ok (.iaload, 1) := by decide +kernel
theorem dL_law_343 : decode cL_law 343 = .ok (.aload_n 0, 1) := by decide +kernel
theorem dL_law_344 : decode cL_law 344 = .ok (.iload_n 3, 1) := by decide +kernel
theorem dL_law_345 : decode cL_law 345 = .ok (.iconst 2, 1) := by decide +kernel
theorem dL_law_346 : decode cL_law 346 = .ok (.iadd, 1) := by decide +kernel
theorem dL_law_347 : decode cL_law 347 = .ok (.iaload, 1) := by decide +kernel
theorem dL_law_348 : decode cL_law 348 = .ok (.invokevirtual 44, 3) := by decide +kernel
theorem dL_law_351 : decode cL_law 351 = .ok (.aload_n 2, 1) := by decide +kernel
theorem dL_law_352 : decode cL_law 352 = .ok (.aload_n 0, 1) := by decide +kernel
theorem dL_law_353 : decode cL_law 353 = .ok (.iload_n 3, 1) := by decide +kernel
theorem dL_law_354 : decode cL_law 354 = .ok (.iconst 1, 1) := by decide +kernel
theorem dL_law_355 : decode cL_law 355 = .ok (.iadd, 1) := by decide +kernel
theorem dL_law_356 : decode cL_law 356 = .ok (.iaload, 1) := by decide +kernel
theorem dL_law_357 : decode cL_law 357 = .ok (.aload_n 0, 1) := by decide +kernel
theorem dL_law_358 : decode cL_law 358 = .ok (.iload_n 3, 1) := by decide +kernel
theorem dL_law_359 : decode cL_law 359 = .ok (.iconst 2, 1) := by decide +kernel
theorem dL_law_360 : decode cL_law 360 = .ok (.iadd, 1) := by decide +kernel
theorem dL_law_361 : decode cL_law 361 = .ok (.iaload, 1) := by decide +kernel
theorem dL_law_362 : decode cL_law 362 = .ok (.invokevirtual 47, 3) := by decide +kernel
theorem dL_law_365 : decode cL_law 365 = .ok (.if_icmp .eq 637, 3) := by decide +kernel
theorem dL_law_368 : decode cL_law 368 = .ok (.iconst 0, 1) := by decide +kernel
theorem dL_law_369 : decode cL_law 369 = .ok (.ireturn, 1) := by decide +kernel
theorem sc_in {i j L : Nat} (h : i + j < L) (hL : L ≤ 3072) : vp_in (nI i + nI j) L := by
  rw [nI_add]
  exact vp_in_nI h (by omega)
theorem wyn_1 : Cond.methodLink RL 13 yX8_write ∈ WL_ := wl_in (tj_2 (List.mem_of_getElem? (i := 26) rfl)) rfl
theorem wyn_2 : Cond.instanceMethod yX8_write ∈ WL_ := wl_in (tj_2 (List.mem_of_getElem? (i := 27) rfl)) rfl
theorem wyn_3 : Cond.selects RX8 yX8_write yX8_write ∈ WL_ := wl_in (tj_2 (List.mem_of_getElem? (i := 28) rfl)) rfl
theorem wyn_4 : Cond.initialized RX8 ∈ WL_ := wl_in (tj_1 (List.mem_of_getElem? (i := 1) rfl)) rfl
theorem wyn_5 : Cond.code yX8_write cX8_write 2 (some .int) ∈ WL_ := wl_in (tj_2 (List.mem_of_getElem? (i := 29) rfl)) rfl
theorem wyn_6 : Cond.methodLink RL 17 yX9_write ∈ WL_ := wl_in (tj_5 (List.mem_of_getElem? (i := 172) rfl)) rfl
theorem wyn_7 : Cond.instanceMethod yX9_write ∈ WL_ := wl_in (tj_5 (List.mem_of_getElem? (i := 173) rfl)) rfl
theorem wyn_8 : Cond.selects RX9 yX9_write yX9_write ∈ WL_ := wl_in (tj_5 (List.mem_of_getElem? (i := 174) rfl)) rfl
theorem wyn_9 : Cond.initialized RX9 ∈ WL_ := wl_in (tj_1 (List.mem_of_getElem? (i := 11) rfl)) rfl
theorem wyn_10 : Cond.code yX9_write cX9_write 2 (some .int) ∈ WL_ := wl_in (tj_5 (List.mem_of_getElem? (i := 175) rfl)) rfl
theorem wyn_11 : Cond.methodLink RL 18 yX8_erase ∈ WL_ := wl_in (tj_2 (List.mem_of_getElem? (i := 38) rfl)) rfl
theorem wyn_12 : Cond.instanceMethod yX8_erase ∈ WL_ := wl_in (tj_2 (List.mem_of_getElem? (i := 39) rfl)) rfl
theorem wyn_13 : Cond.selects RX8 yX8_erase yX8_erase ∈ WL_ := wl_in (tj_2 (List.mem_of_getElem? (i := 40) rfl)) rfl
theorem wyn_14 : Cond.code yX8_erase cX8_erase 2 (some .int) ∈ WL_ := wl_in (tj_2 (List.mem_of_getElem? (i := 41) rfl)) rfl
theorem wyn_15 : Cond.methodLink RL 22 yX9_erase ∈ WL_ := wl_in (tj_5 (List.mem_of_getElem? (i := 180) rfl)) rfl
theorem wyn_16 : Cond.instanceMethod yX9_erase ∈ WL_ := wl_in (tj_5 (List.mem_of_getElem? (i := 181) rfl)) rfl
theorem wyn_17 : Cond.selects RX9 yX9_erase yX9_erase ∈ WL_ := wl_in (tj_5 (List.mem_of_getElem? (i := 182) rfl)) rfl
theorem wyn_18 : Cond.code yX9_erase cX9_erase 2 (some .int) ∈ WL_ := wl_in (tj_5 (List.mem_of_getElem? (i := 183) rfl)) rfl
theorem wyn_19 : Cond.methodLink RL 23 yX8_fault ∈ WL_ := wl_in (tj_2 (List.mem_of_getElem? (i := 46) rfl)) rfl
theorem wyn_20 : Cond.instanceMethod yX8_fault ∈ WL_ := wl_in (tj_2 (List.mem_of_getElem? (i := 47) rfl)) rfl
theorem wyn_21 : Cond.selects RX8 yX8_fault yX8_fault ∈ WL_ := wl_in (tj_2 (List.mem_of_getElem? (i := 48) rfl)) rfl
theorem wyn_22 : Cond.code yX8_fault cX8_fault 1 (some .int) ∈ WL_ := wl_in (tj_2 (List.mem_of_getElem? (i := 49) rfl)) rfl
theorem hd_X8_fault : yX8_fault.cls = RX8 ∧ yX8_fault.cls ≠ "java/lang/invoke/MethodHandle" ∧ yX8_fault.cls ≠ "java/lang/invoke/VarHandle" ∧ (parseMethodDescriptor yX8_fault.desc).map (fun d => d.parameters.length) = some 0 := by decide +kernel
theorem wyn_23 : Cond.methodLink RL 26 yX9_fault ∈ WL_ := wl_in (tj_5 (List.mem_of_getElem? (i := 184) rfl)) rfl
theorem wyn_24 : Cond.instanceMethod yX9_fault ∈ WL_ := wl_in (tj_5 (List.mem_of_getElem? (i := 185) rfl)) rfl
theorem wyn_25 : Cond.selects RX9 yX9_fault yX9_fault ∈ WL_ := wl_in (tj_5 (List.mem_of_getElem? (i := 186) rfl)) rfl
theorem wyn_26 : Cond.code yX9_fault cX9_fault 1 (some .int) ∈ WL_ := wl_in (tj_5 (List.mem_of_getElem? (i := 187) rfl)) rfl
theorem wyn_27 : Cond.methodLink RL 27 yX8_program ∈ WL_ := wl_in (tj_2 (List.mem_of_getElem? (i := 231) rfl)) rfl
theorem wyn_28 : Cond.instanceMethod yX8_program ∈ WL_ := wl_in (tj_2 (List.mem_of_getElem? (i := 232) rfl)) rfl
theorem wyn_29 : Cond.selects RX8 yX8_program yX8_program ∈ WL_ := wl_in (tj_2 (List.mem_of_getElem? (i := 233) rfl)) rfl
theorem wyn_30 : Cond.code yX8_program cX8_program 1 (some .int) ∈ WL_ := wl_in (tj_2 (List.mem_of_getElem? (i := 234) rfl)) rfl
theorem hd_X8_program : yX8_program.cls = RX8 ∧ yX8_program.cls ≠ "java/lang/invoke/MethodHandle" ∧ yX8_program.cls ≠ "java/lang/invoke/VarHandle" ∧ (parseMethodDescriptor yX8_program.desc).map (fun d => d.parameters.length) = some 0 := by decide +kernel
theorem wyn_31 : Cond.methodLink RL 30 yX9_program ∈ WL_ := wl_in (tj_6 (List.mem_of_getElem? (i := 35) rfl)) rfl
theorem wyn_32 : Cond.instanceMethod yX9_program ∈ WL_ := wl_in (tj_6 (List.mem_of_getElem? (i := 36) rfl)) rfl
theorem wyn_33 : Cond.selects RX9 yX9_program yX9_program ∈ WL_ := wl_in (tj_6 (List.mem_of_getElem? (i := 37) rfl)) rfl
theorem wyn_34 : Cond.code yX9_program cX9_program 2 (some .int) ∈ WL_ := wl_in (tj_6 (List.mem_of_getElem? (i := 38) rfl)) rfl
theorem wyn_35 : Cond.methodLink RL 31 yX8_node ∈ WL_ := wl_in (tj_3 (List.mem_of_getElem? (i := 15) rfl)) rfl
theorem wyn_36 : Cond.instanceMethod yX8_node ∈ WL_ := wl_in (tj_3 (List.mem_of_getElem? (i := 16) rfl)) rfl
theorem wyn_37 : Cond.selects RX8 yX8_node yX8_node ∈ WL_ := wl_in (tj_3 (List.mem_of_getElem? (i := 17) rfl)) rfl
theorem wyn_38 : Cond.code yX8_node cX8_node 4 (some .int) ∈ WL_ := wl_in (tj_3 (List.mem_of_getElem? (i := 18) rfl)) rfl
theorem wyn_39 : Cond.methodLink RL 35 yX9_node ∈ WL_ := wl_in (tj_6 (List.mem_of_getElem? (i := 39) rfl)) rfl
theorem wyn_40 : Cond.instanceMethod yX9_node ∈ WL_ := wl_in (tj_6 (List.mem_of_getElem? (i := 40) rfl)) rfl
theorem wyn_41 : Cond.selects RX9 yX9_node yX9_node ∈ WL_ := wl_in (tj_6 (List.mem_of_getElem? (i := 41) rfl)) rfl
theorem wyn_42 : Cond.code yX9_node cX9_node 4 (some .int) ∈ WL_ := wl_in (tj_6 (List.mem_of_getElem? (i := 42) rfl)) rfl
theorem wyn_43 : Cond.methodLink RL 36 yX8_extent ∈ WL_ := wl_in (tj_3 (List.mem_of_getElem? (i := 43) rfl)) rfl
theorem wyn_44 : Cond.instanceMethod yX8_extent ∈ WL_ := wl_in (tj_3 (List.mem_of_getElem? (i := 44) rfl)) rfl
theorem wyn_45 : Cond.selects RX8 yX8_extent yX8_extent ∈ WL_ := wl_in (tj_3 (List.mem_of_getElem? (i := 45) rfl)) rfl
theorem wyn_46 : Cond.code yX8_extent cX8_extent 3 (some .int) ∈ WL_ := wl_in (tj_3 (List.mem_of_getElem? (i := 46) rfl)) rfl
theorem wyn_47 : Cond.methodLink RL 39 yX9_extent ∈ WL_ := wl_in (tj_6 (List.mem_of_getElem? (i := 48) rfl)) rfl
theorem wyn_48 : Cond.instanceMethod yX9_extent ∈ WL_ := wl_in (tj_6 (List.mem_of_getElem? (i := 49) rfl)) rfl
theorem wyn_49 : Cond.selects RX9 yX9_extent yX9_extent ∈ WL_ := wl_in (tj_6 (List.mem_of_getElem? (i := 50) rfl)) rfl
theorem wyn_50 : Cond.code yX9_extent cX9_extent 3 (some .int) ∈ WL_ := wl_in (tj_6 (List.mem_of_getElem? (i := 51) rfl)) rfl
theorem wyn_51 : Cond.methodLink RL 40 yX8_as ∈ WL_ := wl_in (tj_3 (List.mem_of_getElem? (i := 162) rfl)) rfl
theorem wyn_52 : Cond.instanceMethod yX8_as ∈ WL_ := wl_in (tj_3 (List.mem_of_getElem? (i := 163) rfl)) rfl
theorem wyn_53 : Cond.selects RX8 yX8_as yX8_as ∈ WL_ := wl_in (tj_3 (List.mem_of_getElem? (i := 164) rfl)) rfl
theorem wyn_54 : Cond.code yX8_as cX8_as 3 (some .int) ∈ WL_ := wl_in (tj_3 (List.mem_of_getElem? (i := 165) rfl)) rfl
theorem hd_X8_as : yX8_as.cls = RX8 ∧ yX8_as.cls ≠ "java/lang/invoke/MethodHandle" ∧ yX8_as.cls ≠ "java/lang/invoke/VarHandle" ∧ (parseMethodDescriptor yX8_as.desc).map (fun d => d.parameters.length) = some 2 := by decide +kernel
theorem wyn_55 : Cond.methodLink RL 43 yX9_as ∈ WL_ := wl_in (tj_6 (List.mem_of_getElem? (i := 127) rfl)) rfl
theorem wyn_56 : Cond.instanceMethod yX9_as ∈ WL_ := wl_in (tj_6 (List.mem_of_getElem? (i := 128) rfl)) rfl
theorem wyn_57 : Cond.selects RX9 yX9_as yX9_as ∈ WL_ := wl_in (tj_6 (List.mem_of_getElem? (i := 129) rfl)) rfl
theorem wyn_58 : Cond.code yX9_as cX9_as 5 (some .int) ∈ WL_ := wl_in (tj_6 (List.mem_of_getElem? (i := 130) rfl)) rfl
theorem wyn_59 : Cond.methodLink RL 44 yX8_give ∈ WL_ := wl_in (tj_3 (List.mem_of_getElem? (i := 171) rfl)) rfl
theorem wyn_60 : Cond.instanceMethod yX8_give ∈ WL_ := wl_in (tj_3 (List.mem_of_getElem? (i := 172) rfl)) rfl
theorem wyn_61 : Cond.selects RX8 yX8_give yX8_give ∈ WL_ := wl_in (tj_3 (List.mem_of_getElem? (i := 173) rfl)) rfl
theorem wyn_62 : Cond.code yX8_give cX8_give 3 (some .int) ∈ WL_ := wl_in (tj_3 (List.mem_of_getElem? (i := 174) rfl)) rfl
theorem wyn_63 : Cond.methodLink RL 47 yX9_give ∈ WL_ := wl_in (tj_6 (List.mem_of_getElem? (i := 131) rfl)) rfl
theorem wyn_64 : Cond.instanceMethod yX9_give ∈ WL_ := wl_in (tj_6 (List.mem_of_getElem? (i := 132) rfl)) rfl
theorem wyn_65 : Cond.selects RX9 yX9_give yX9_give ∈ WL_ := wl_in (tj_6 (List.mem_of_getElem? (i := 133) rfl)) rfl
theorem wyn_66 : Cond.code yX9_give cX9_give 3 (some .int) ∈ WL_ := wl_in (tj_6 (List.mem_of_getElem? (i := 134) rfl)) rfl
section LAWC
variable {adK adV : Nat → Nat} {tA : Nat} {p : Program} {l : Launch} {e : Env} {s : State} {m : MethodId} {args : Array Value} {below : List Frame} {meth : Method} {c : Code} {H : Heap} {locs : List Loc} {Q : State → Prop} {D : va_G} {aC : Nat → ClassId} {A : Nat → Prop} {ls : Array Slot} {a : Nat → Nat → Nat} {b L i : Nat} {xs : Nat → Int32} {x t n n2 v d v2 d2 g w v3 d3 q r o : Ob_T}
set_option maxHeartbeats 4000000 in
set_option maxRecDepth 100000 in
theorem lc_write (hE : EX_ adK adV tA A s s.heap) (hX : K_X p s m args meth c cL_law 4 WL_ RL D aC A) (hSc : va_X b L xs s s.heap) (hbl : b < s.heap.size) (hbA : ¬ A b) (hi : i + 6 ≤ L) (hL : L ≤ 3072) (h : RR_ x t n v w g q r o) (hZ : K_S D A s (FL (BK_ aC a x t n n2 v d v2 d2 g w v3 d3 q r o) A15) H locs) (hl : lv_has ls 4 [(0, .ref b), (1, .ref (a 0 0)), (2, .ref (a 14 0)), (3, .int (nI i))]) (kk : ∀ (x t n n2 v d v2 d2 g w v3 d3 q r o : Ob_T) (H : Heap) (locs : List Loc), RR_ x t n v w g q r o → K_S D A s (FL (BK_ aC a x t n n2 v d v2 d2 g w v3 d3 q r o) A15) H locs → W p l e room_1 s m args below meth c H locs 86 1484 Q (F0 m 1002 ls [])) : W p l e room_1 s m args below meth c H locs 86 1484 Q (F0 m 176 ls []) := by
  obtain ⟨hx, hb, hml, hown, hts, hK, hA, hlk⟩ := id hX
  obtain ⟨u, hu, y, hy, e1, hR⟩ := rr_write h (xs (nI i + 1).toNatClampNeg)
  refine lv_aload_n hx hb dL_law_176 rfl (lv_at hl 1 rfl) ?_
  refine lv_aload_n hx hb dL_law_177 rfl (lv_at hl 0 rfl) ?_
  refine lv_iload_n hx hb dL_law_178 rfl (lv_at hl 3 rfl) ?_
  refine lv_iconst (v := 1) hx hb dL_law_179 (by decide) ?_
  refine lv_iadd hx hb dL_law_180 ?_
  refine va_sld hx hb hSc hbl hbA hZ.2.2 (sc_in (j := 1) (by omega) hL) dL_law_181 ?_
  refine k_LW (B := BK_ aC a x t n n2 v d v2 d2 g w v3 d3 q r o) (B' := BK_ aC a x u.2 n n2 v d v2 d2 g w v3 d3 q r o) (As := [.int (xs (nI i + 1).toNatClampNeg)]) (rest := []) (v := some (.int u.1)) (st1 := [.int u.1]) hX hl.1 [0, 1] [2, 3, 4, 5, 6, 7, 8, 9, 10, 11, 12, 13, 14] A15 hZ (by decide) (c_X8_write (aC := aC) (a_x := a 0) (a_t := a 1) (a_n := a 2) (a_n2 := a 3) (a_v := a 4) (a_v2 := a 6) (a_g := a 8) (a_w := a 9) (a_q := a 12) (a_r := a 13) x t (xs (nI i + 1).toNatClampNeg) hu) rfl rfl (gv_ wyn_1 wyn_2 wyn_3 wyn_4 wyn_5) rfl hd_X8_write ⟨rfl, rfl⟩ 8 rfl rfl rfl rfl rfl dL_law_182 rfl ⟨rfl, rfl⟩ (fun H locs hZ => ?_)
  refine lv_aload_n hx hb dL_law_185 rfl (lv_at hl 2 rfl) ?_
  refine lv_aload_n hx hb dL_law_186 rfl (lv_at hl 0 rfl) ?_
  refine lv_iload_n hx hb dL_law_187 rfl (lv_at hl 3 rfl) ?_
  refine lv_iconst (v := 1) hx hb dL_law_188 (by decide) ?_
  refine lv_iadd hx hb dL_law_189 ?_
  refine va_sld hx hb hSc hbl hbA hZ.2.2 (sc_in (j := 1) (by omega) hL) dL_law_190 ?_
  refine k_LW (B := BK_ aC a x u.2 n n2 v d v2 d2 g w v3 d3 q r o) (B' := BK_ aC a x u.2 n n2 v d v2 d2 g w v3 d3 q r y.2) (As := [.int (xs (nI i + 1).toNatClampNeg)]) (rest := [.int u.1]) (v := some (.int y.1)) (st1 := [.int y.1, .int u.1]) hX hl.1 [14] [0, 1, 2, 3, 4, 5, 6, 7, 8, 9, 10, 11, 12, 13] A15 hZ (by decide) (c_X9_write (aC := aC) (a_o := a 14) o (xs (nI i + 1).toNatClampNeg) hy) rfl rfl (gv_ wyn_6 wyn_7 wyn_8 wyn_9 wyn_10) rfl hd_X9_write ⟨rfl, rfl⟩ 9 rfl rfl rfl rfl rfl dL_law_191 rfl ⟨rfl, rfl⟩ (fun H locs hZ => ?_)
  refine lv_icmp_eq (tgt := 1002) hx hb dL_law_194 (by decide) (fun _ => ?_) (fun cd => absurd e1 cd)
  exact kk _ _ _ _ _ _ _ _ _ _ _ _ _ _ _ _ _ hR hZ
set_option maxHeartbeats 4000000 in
set_option maxRecDepth 100000 in
theorem lc_erase (hE : EX_ adK adV tA A s s.heap) (hX : K_X p s m args meth c cL_law 4 WL_ RL D aC A) (hSc : va_X b L xs s s.heap) (hbl : b < s.heap.size) (hbA : ¬ A b) (hi : i + 6 ≤ L) (hL : L ≤ 3072) (h : RR_ x t n v w g q r o) (hZ : K_S D A s (FL (BK_ aC a x t n n2 v d v2 d2 g w v3 d3 q r o) A15) H locs) (hl : lv_has ls 4 [(0, .ref b), (1, .ref (a 0 0)), (2, .ref (a 14 0)), (3, .int (nI i))]) (kk : ∀ (x t n n2 v d v2 d2 g w v3 d3 q r o : Ob_T) (H : Heap) (locs : List Loc), RR_ x t n v w g q r o → K_S D A s (FL (BK_ aC a x t n n2 v d v2 d2 g w v3 d3 q r o) A15) H locs → W p l e room_1 s m args below meth c H locs 86 1484 Q (F0 m 1002 ls [])) : W p l e room_1 s m args below meth c H locs 86 1484 Q (F0 m 199 ls []) := by
  obtain ⟨hx, hb, hml, hown, hts, hK, hA, hlk⟩ := id hX
  obtain ⟨u, hu, y, hy, e1, hR⟩ := rr_erase h 
  refine lv_aload_n hx hb dL_law_199 rfl (lv_at hl 1 rfl) ?_
  refine k_LW (B := BK_ aC a x t n n2 v d v2 d2 g w v3 d3 q r o) (B' := BK_ aC a x u.2 n n2 v d v2 d2 g w v3 d3 q r o) (As := []) (rest := []) (v := some (.int u.1)) (st1 := [.int u.1]) hX hl.1 [0, 1] [2, 3, 4, 5, 6, 7, 8, 9, 10, 11, 12, 13, 14] A15 hZ (by decide) (c_X8_erase (aC := aC) (a_x := a 0) (a_t := a 1) (a_n := a 2) (a_n2 := a 3) (a_v := a 4) (a_v2 := a 6) (a_g := a 8) (a_w := a 9) (a_q := a 12) (a_r := a 13) x t hu) rfl rfl (gv_ wyn_11 wyn_12 wyn_13 wyn_4 wyn_14) rfl hd_X8_erase ⟨rfl, rfl⟩ 8 rfl rfl rfl rfl rfl dL_law_200 rfl ⟨rfl, rfl⟩ (fun H locs hZ => ?_)
  refine lv_aload_n hx hb dL_law_203 rfl (lv_at hl 2 rfl) ?_
  refine k_LW (B := BK_ aC a x u.2 n n2 v d v2 d2 g w v3 d3 q r o) (B' := BK_ aC a x u.2 n n2 v d v2 d2 g w v3 d3 q r y.2) (As := []) (rest := [.int u.1]) (v := some (.int y.1)) (st1 := [.int y.1, .int u.1]) hX hl.1 [14] [0, 1, 2, 3, 4, 5, 6, 7, 8, 9, 10, 11, 12, 13] A15 hZ (by decide) (c_X9_erase (aC := aC) (a_o := a 14) o  hy) rfl rfl (gv_ wyn_15 wyn_16 wyn_17 wyn_9 wyn_18) rfl hd_X9_erase ⟨rfl, rfl⟩ 9 rfl rfl rfl rfl rfl dL_law_204 rfl ⟨rfl, rfl⟩ (fun H locs hZ => ?_)
  refine lv_icmp_eq (tgt := 1002) hx hb dL_law_207 (by decide) (fun _ => ?_) (fun cd => absurd e1 cd)
  exact kk _ _ _ _ _ _ _ _ _ _ _ _ _ _ _ _ _ hR hZ
set_option maxHeartbeats 4000000 in
set_option maxRecDepth 100000 in
theorem lc_fault (hE : EX_ adK adV tA A s s.heap) (hX : K_X p s m args meth c cL_law 4 WL_ RL D aC A) (hSc : va_X b L xs s s.heap) (hbl : b < s.heap.size) (hbA : ¬ A b) (hi : i + 6 ≤ L) (hL : L ≤ 3072) (h : RR_ x t n v w g q r o) (hZ : K_S D A s (FL (BK_ aC a x t n n2 v d v2 d2 g w v3 d3 q r o) A15) H locs) (hl : lv_has ls 4 [(0, .ref b), (1, .ref (a 0 0)), (2, .ref (a 14 0)), (3, .int (nI i))]) (kk : ∀ (x t n n2 v d v2 d2 g w v3 d3 q r o : Ob_T) (H : Heap) (locs : List Loc), RR_ x t n v w g q r o → K_S D A s (FL (BK_ aC a x t n n2 v d v2 d2 g w v3 d3 q r o) A15) H locs → W p l e room_1 s m args below meth c H locs 86 1484 Q (F0 m 1002 ls [])) : W p l e room_1 s m args below meth c H locs 86 1484 Q (F0 m 212 ls []) := by
  obtain ⟨hx, hb, hml, hown, hts, hK, hA, hlk⟩ := id hX
  obtain ⟨u, hu, y, hy, e1, hR⟩ := rr_fault h n2
  refine lv_aload_n hx hb dL_law_212 rfl (lv_at hl 1 rfl) ?_
  refine k_LWE hE (B := BK_ aC a x t n n2 v d v2 d2 g w v3 d3 q r o) (B' := BK_ aC a x u.2.1 n u.2.2 v d v2 d2 g w v3 d3 q r o) (As := []) (rest := []) (v := some (.int u.1)) (st1 := [.int u.1]) hX hl.1 [0, 1, 2, 3] [4, 5, 6, 7, 8, 9, 10, 11, 12, 13, 14] A15 hZ (by decide) (c_X8_fault (aC := aC) (a_x := a 0) (a_t := a 1) (a_n := a 2) (a_n2 := a 3) (a_v := a 4) (a_v2 := a 6) (a_g := a 8) (a_w := a 9) (a_q := a 12) (a_r := a 13) x t n n2 hu) rfl rfl (gv_ wyn_19 wyn_20 wyn_21 wyn_4 wyn_22) rfl hd_X8_fault ⟨rfl, rfl⟩ 8 rfl rfl rfl rfl rfl dL_law_213 rfl ⟨rfl, rfl⟩ (fun H locs hZ => ?_)
  refine lv_aload_n hx hb dL_law_216 rfl (lv_at hl 2 rfl) ?_
  refine k_LW (B := BK_ aC a x u.2.1 n u.2.2 v d v2 d2 g w v3 d3 q r o) (B' := BK_ aC a x u.2.1 n u.2.2 v d v2 d2 g w v3 d3 q r y.2) (As := []) (rest := [.int u.1]) (v := some (.int y.1)) (st1 := [.int y.1, .int u.1]) hX hl.1 [14] [0, 1, 2, 3, 4, 5, 6, 7, 8, 9, 10, 11, 12, 13] A15 hZ (by decide) (c_X9_fault (aC := aC) (a_o := a 14) o  hy) rfl rfl (gv_ wyn_23 wyn_24 wyn_25 wyn_9 wyn_26) rfl hd_X9_fault ⟨rfl, rfl⟩ 9 rfl rfl rfl rfl rfl dL_law_217 rfl ⟨rfl, rfl⟩ (fun H locs hZ => ?_)
  refine lv_icmp_eq (tgt := 1002) hx hb dL_law_220 (by decide) (fun _ => ?_) (fun cd => absurd e1 cd)
  exact kk _ _ _ _ _ _ _ _ _ _ _ _ _ _ _ _ _ hR hZ
set_option maxHeartbeats 4000000 in
set_option maxRecDepth 100000 in
theorem lc_program (hE : EX_ adK adV tA A s s.heap) (hX : K_X p s m args meth c cL_law 4 WL_ RL D aC A) (hSc : va_X b L xs s s.heap) (hbl : b < s.heap.size) (hbA : ¬ A b) (hi : i + 6 ≤ L) (hL : L ≤ 3072) (h : RR_ x t n v w g q r o) (hZ : K_S D A s (FL (BK_ aC a x t n n2 v d v2 d2 g w v3 d3 q r o) A15) H locs) (hl : lv_has ls 4 [(0, .ref b), (1, .ref (a 0 0)), (2, .ref (a 14 0)), (3, .int (nI i))]) (kk : ∀ (x t n n2 v d v2 d2 g w v3 d3 q r o : Ob_T) (H : Heap) (locs : List Loc), RR_ x t n v w g q r o → K_S D A s (FL (BK_ aC a x t n n2 v d v2 d2 g w v3 d3 q r o) A15) H locs → W p l e room_1 s m args below meth c H locs 86 1484 Q (F0 m 1002 ls [])) : W p l e room_1 s m args below meth c H locs 86 1484 Q (F0 m 225 ls []) := by
  obtain ⟨hx, hb, hml, hown, hts, hK, hA, hlk⟩ := id hX
  obtain ⟨u, hu, y, hy, e1, hR⟩ := sm_program n2 h
  refine lv_aload_n hx hb dL_law_225 rfl (lv_at hl 1 rfl) ?_
  refine k_LWE hE (B := BK_ aC a x t n n2 v d v2 d2 g w v3 d3 q r o) (B' := BK_ aC a u.2.1 u.2.2.1 u.2.2.2.1 u.2.2.2.2.1 v d v2 d2 u.2.2.2.2.2.1 w v3 d3 u.2.2.2.2.2.2.1 u.2.2.2.2.2.2.2 o) (As := []) (rest := []) (v := some (.int u.1)) (st1 := [.int u.1]) hX hl.1 [0, 1, 2, 3, 8, 12, 13] [4, 5, 6, 7, 9, 10, 11, 14] A15 hZ (by decide) (c_X8_program (aC := aC) (a_x := a 0) (a_t := a 1) (a_n := a 2) (a_n2 := a 3) (a_v := a 4) (a_v2 := a 6) (a_g := a 8) (a_w := a 9) (a_q := a 12) (a_r := a 13) x t n n2 g q r hu) rfl rfl (gv_ wyn_27 wyn_28 wyn_29 wyn_4 wyn_30) rfl hd_X8_program ⟨rfl, rfl⟩ 8 rfl rfl rfl rfl rfl dL_law_226 rfl ⟨rfl, rfl⟩ (fun H locs hZ => ?_)
  refine lv_aload_n hx hb dL_law_229 rfl (lv_at hl 2 rfl) ?_
  refine k_LW (B := BK_ aC a u.2.1 u.2.2.1 u.2.2.2.1 u.2.2.2.2.1 v d v2 d2 u.2.2.2.2.2.1 w v3 d3 u.2.2.2.2.2.2.1 u.2.2.2.2.2.2.2 o) (B' := BK_ aC a u.2.1 u.2.2.1 u.2.2.2.1 u.2.2.2.2.1 v d v2 d2 u.2.2.2.2.2.1 w v3 d3 u.2.2.2.2.2.2.1 u.2.2.2.2.2.2.2 y.2) (As := []) (rest := [.int u.1]) (v := some (.int y.1)) (st1 := [.int y.1, .int u.1]) hX hl.1 [14] [0, 1, 2, 3, 4, 5, 6, 7, 8, 9, 10, 11, 12, 13] A15 hZ (by decide) (c_X9_program (aC := aC) (a_o := a 14) o  hy) rfl rfl (gv_ wyn_31 wyn_32 wyn_33 wyn_9 wyn_34) rfl hd_X9_program ⟨rfl, rfl⟩ 9 rfl rfl rfl rfl rfl dL_law_230 rfl ⟨rfl, rfl⟩ (fun H locs hZ => ?_)
  refine lv_icmp_eq (tgt := 1002) hx hb dL_law_233 (by decide) (fun _ => ?_) (fun cd => absurd e1 cd)
  exact kk _ _ _ _ _ _ _ _ _ _ _ _ _ _ _ _ _ hR hZ
set_option maxHeartbeats 4000000 in
set_option maxRecDepth 100000 in
theorem lc_node (hE : EX_ adK adV tA A s s.heap) (hX : K_X p s m args meth c cL_law 4 WL_ RL D aC A) (hSc : va_X b L xs s s.heap) (hbl : b < s.heap.size) (hbA : ¬ A b) (hi : i + 6 ≤ L) (hL : L ≤ 3072) (h : RR_ x t n v w g q r o) (hZ : K_S D A s (FL (BK_ aC a x t n n2 v d v2 d2 g w v3 d3 q r o) A15) H locs) (hl : lv_has ls 4 [(0, .ref b), (1, .ref (a 0 0)), (2, .ref (a 14 0)), (3, .int (nI i))]) (kk : ∀ (x t n n2 v d v2 d2 g w v3 d3 q r o : Ob_T) (H : Heap) (locs : List Loc), RR_ x t n v w g q r o → K_S D A s (FL (BK_ aC a x t n n2 v d v2 d2 g w v3 d3 q r o) A15) H locs → W p l e room_1 s m args below meth c H locs 86 1484 Q (F0 m 1002 ls [])) : W p l e room_1 s m args below meth c H locs 86 1484 Q (F0 m 238 ls []) := by
  obtain ⟨hx, hb, hml, hown, hts, hK, hA, hlk⟩ := id hX
  obtain ⟨u, hu, y, hy, e1⟩ := rr_node h (xs (nI i + 1).toNatClampNeg) (xs (nI i + 2).toNatClampNeg)
  refine lv_aload_n hx hb dL_law_238 rfl (lv_at hl 1 rfl) ?_
  refine lv_aload_n hx hb dL_law_239 rfl (lv_at hl 0 rfl) ?_
  refine lv_iload_n hx hb dL_law_240 rfl (lv_at hl 3 rfl) ?_
  refine lv_iconst (v := 1) hx hb dL_law_241 (by decide) ?_
  refine lv_iadd hx hb dL_law_242 ?_
  refine va_sld hx hb hSc hbl hbA hZ.2.2 (sc_in (j := 1) (by omega) hL) dL_law_243 ?_
  refine lv_aload_n hx hb dL_law_244 rfl (lv_at hl 0 rfl) ?_
  refine lv_iload_n hx hb dL_law_245 rfl (lv_at hl 3 rfl) ?_
  refine lv_iconst (v := 2) hx hb dL_law_246 (by decide) ?_
  refine lv_iadd hx hb dL_law_247 ?_
  refine va_sld hx hb hSc hbl hbA hZ.2.2 (sc_in (j := 2) (by omega) hL) dL_law_248 ?_
  refine k_LR (B := BK_ aC a x t n n2 v d v2 d2 g w v3 d3 q r o) (As := [.int (xs (nI i + 1).toNatClampNeg), .int (xs (nI i + 2).toNatClampNeg)]) (rest := []) (v := some (.int u)) (st1 := [.int u]) hX hl.1 [0, 2] [1, 3, 4, 5, 6, 7, 8, 9, 10, 11, 12, 13, 14] A15 hZ (by decide) (c_X8_node (aC := aC) (a_x := a 0) (a_n := a 2) (a_t := a 1) (a_n2 := a 3) (a_v := a 4) (a_v2 := a 6) (a_g := a 8) (a_w := a 9) (a_q := a 12) (a_r := a 13) x n (xs (nI i + 1).toNatClampNeg) (xs (nI i + 2).toNatClampNeg) hu) (gv_ wyn_35 wyn_36 wyn_37 wyn_4 wyn_38) rfl hd_X8_node ⟨rfl, rfl⟩ 8 rfl rfl rfl rfl rfl dL_law_249 rfl ⟨rfl, rfl⟩ (fun locs hZ => ?_)
  refine lv_aload_n hx hb dL_law_252 rfl (lv_at hl 2 rfl) ?_
  refine lv_aload_n hx hb dL_law_253 rfl (lv_at hl 0 rfl) ?_
  refine lv_iload_n hx hb dL_law_254 rfl (lv_at hl 3 rfl) ?_
  refine lv_iconst (v := 1) hx hb dL_law_255 (by decide) ?_
  refine lv_iadd hx hb dL_law_256 ?_
  refine va_sld hx hb hSc hbl hbA hZ.2.2 (sc_in (j := 1) (by omega) hL) dL_law_257 ?_
  refine lv_aload_n hx hb dL_law_258 rfl (lv_at hl 0 rfl) ?_
  refine lv_iload_n hx hb dL_law_259 rfl (lv_at hl 3 rfl) ?_
  refine lv_iconst (v := 2) hx hb dL_law_260 (by decide) ?_
  refine lv_iadd hx hb dL_law_261 ?_
  refine va_sld hx hb hSc hbl hbA hZ.2.2 (sc_in (j := 2) (by omega) hL) dL_law_262 ?_
  refine k_LR (B := BK_ aC a x t n n2 v d v2 d2 g w v3 d3 q r o) (As := [.int (xs (nI i + 1).toNatClampNeg), .int (xs (nI i + 2).toNatClampNeg)]) (rest := [.int u]) (v := some (.int y)) (st1 := [.int y, .int u]) hX hl.1 [14] [0, 1, 2, 3, 4, 5, 6, 7, 8, 9, 10, 11, 12, 13] A15 hZ (by decide) (c_X9_node (aC := aC) (a_o := a 14) o (xs (nI i + 1).toNatClampNeg) (xs (nI i + 2).toNatClampNeg) hy) (gv_ wyn_39 wyn_40 wyn_41 wyn_9 wyn_42) rfl hd_X9_node ⟨rfl, rfl⟩ 9 rfl rfl rfl rfl rfl dL_law_263 rfl ⟨rfl, rfl⟩ (fun locs hZ => ?_)
  refine lv_icmp_eq (tgt := 1002) hx hb dL_law_266 (by decide) (fun _ => ?_) (fun cd => absurd e1 cd)
  exact kk _ _ _ _ _ _ _ _ _ _ _ _ _ _ _ _ _ h hZ
set_option maxHeartbeats 4000000 in
set_option maxRecDepth 100000 in
theorem lc_extent (hE : EX_ adK adV tA A s s.heap) (hX : K_X p s m args meth c cL_law 4 WL_ RL D aC A) (hSc : va_X b L xs s s.heap) (hbl : b < s.heap.size) (hbA : ¬ A b) (hi : i + 6 ≤ L) (hL : L ≤ 3072) (h : RR_ x t n v w g q r o) (hZ : K_S D A s (FL (BK_ aC a x t n n2 v d v2 d2 g w v3 d3 q r o) A15) H locs) (hl : lv_has ls 4 [(0, .ref b), (1, .ref (a 0 0)), (2, .ref (a 14 0)), (3, .int (nI i))]) (kk : ∀ (x t n n2 v d v2 d2 g w v3 d3 q r o : Ob_T) (H : Heap) (locs : List Loc), RR_ x t n v w g q r o → K_S D A s (FL (BK_ aC a x t n n2 v d v2 d2 g w v3 d3 q r o) A15) H locs → W p l e room_1 s m args below meth c H locs 86 1484 Q (F0 m 1002 ls [])) : W p l e room_1 s m args below meth c H locs 86 1484 Q (F0 m 271 ls []) := by
  obtain ⟨hx, hb, hml, hown, hts, hK, hA, hlk⟩ := id hX
  obtain ⟨u, hu, y, hy, e1, hR⟩ := rr_extent h d (xs (nI i + 1).toNatClampNeg) (xs (nI i + 2).toNatClampNeg)
  refine lv_aload_n hx hb dL_law_271 rfl (lv_at hl 1 rfl) ?_
  refine lv_aload_n hx hb dL_law_272 rfl (lv_at hl 0 rfl) ?_
  refine lv_iload_n hx hb dL_law_273 rfl (lv_at hl 3 rfl) ?_
  refine lv_iconst (v := 1) hx hb dL_law_274 (by decide) ?_
  refine lv_iadd hx hb dL_law_275 ?_
  refine va_sld hx hb hSc hbl hbA hZ.2.2 (sc_in (j := 1) (by omega) hL) dL_law_276 ?_
  refine lv_aload_n hx hb dL_law_277 rfl (lv_at hl 0 rfl) ?_
  refine lv_iload_n hx hb dL_law_278 rfl (lv_at hl 3 rfl) ?_
  refine lv_iconst (v := 2) hx hb dL_law_279 (by decide) ?_
  refine lv_iadd hx hb dL_law_280 ?_
  refine va_sld hx hb hSc hbl hbA hZ.2.2 (sc_in (j := 2) (by omega) hL) dL_law_281 ?_
  refine k_LW (B := BK_ aC a x t n n2 v d v2 d2 g w v3 d3 q r o) (B' := BK_ aC a u.2.1 t n n2 u.2.2.1 u.2.2.2 v2 d2 g w v3 d3 q r o) (As := [.int (xs (nI i + 1).toNatClampNeg), .int (xs (nI i + 2).toNatClampNeg)]) (rest := []) (v := some (.int u.1)) (st1 := [.int u.1]) hX hl.1 [0, 2, 4, 5, 8] [1, 3, 6, 7, 9, 10, 11, 12, 13, 14] A15 hZ (by decide) (c_X8_extent (aC := aC) (a_x := a 0) (a_n := a 2) (a_v := a 4) (a_d := a 5) (a_g := a 8) (a_t := a 1) (a_n2 := a 3) (a_v2 := a 6) (a_w := a 9) (a_q := a 12) (a_r := a 13) x n v d g (xs (nI i + 1).toNatClampNeg) (xs (nI i + 2).toNatClampNeg) hu) rfl rfl (gv_ wyn_43 wyn_44 wyn_45 wyn_4 wyn_46) rfl hd_X8_extent ⟨rfl, rfl⟩ 8 rfl rfl rfl rfl rfl dL_law_282 rfl ⟨rfl, rfl⟩ (fun H locs hZ => ?_)
  refine lv_aload_n hx hb dL_law_285 rfl (lv_at hl 2 rfl) ?_
  refine lv_aload_n hx hb dL_law_286 rfl (lv_at hl 0 rfl) ?_
  refine lv_iload_n hx hb dL_law_287 rfl (lv_at hl 3 rfl) ?_
  refine lv_iconst (v := 1) hx hb dL_law_288 (by decide) ?_
  refine lv_iadd hx hb dL_law_289 ?_
  refine va_sld hx hb hSc hbl hbA hZ.2.2 (sc_in (j := 1) (by omega) hL) dL_law_290 ?_
  refine lv_aload_n hx hb dL_law_291 rfl (lv_at hl 0 rfl) ?_
  refine lv_iload_n hx hb dL_law_292 rfl (lv_at hl 3 rfl) ?_
  refine lv_iconst (v := 2) hx hb dL_law_293 (by decide) ?_
  refine lv_iadd hx hb dL_law_294 ?_
  refine va_sld hx hb hSc hbl hbA hZ.2.2 (sc_in (j := 2) (by omega) hL) dL_law_295 ?_
  refine k_LW (B := BK_ aC a u.2.1 t n n2 u.2.2.1 u.2.2.2 v2 d2 g w v3 d3 q r o) (B' := BK_ aC a u.2.1 t n n2 u.2.2.1 u.2.2.2 v2 d2 g w v3 d3 q r y.2) (As := [.int (xs (nI i + 1).toNatClampNeg), .int (xs (nI i + 2).toNatClampNeg)]) (rest := [.int u.1]) (v := some (.int y.1)) (st1 := [.int y.1, .int u.1]) hX hl.1 [14] [0, 1, 2, 3, 4, 5, 6, 7, 8, 9, 10, 11, 12, 13] A15 hZ (by decide) (c_X9_extent (aC := aC) (a_o := a 14) o (xs (nI i + 1).toNatClampNeg) (xs (nI i + 2).toNatClampNeg) hy) rfl rfl (gv_ wyn_47 wyn_48 wyn_49 wyn_9 wyn_50) rfl hd_X9_extent ⟨rfl, rfl⟩ 9 rfl rfl rfl rfl rfl dL_law_296 rfl ⟨rfl, rfl⟩ (fun H locs hZ => ?_)
  refine lv_icmp_eq (tgt := 1002) hx hb dL_law_299 (by decide) (fun _ => ?_) (fun cd => absurd e1 cd)
  exact kk _ _ _ _ _ _ _ _ _ _ _ _ _ _ _ _ _ hR hZ
set_option maxHeartbeats 4000000 in
set_option maxRecDepth 100000 in
theorem lc_as (hE : EX_ adK adV tA A s s.heap) (hX : K_X p s m args meth c cL_law 4 WL_ RL D aC A) (hSc : va_X b L xs s s.heap) (hbl : b < s.heap.size) (hbA : ¬ A b) (hi : i + 6 ≤ L) (hL : L ≤ 3072) (h : RR_ x t n v w g q r o) (hZ : K_S D A s (FL (BK_ aC a x t n n2 v d v2 d2 g w v3 d3 q r o) A15) H locs) (hl : lv_has ls 4 [(0, .ref b), (1, .ref (a 0 0)), (2, .ref (a 14 0)), (3, .int (nI i))]) (kk : ∀ (x t n n2 v d v2 d2 g w v3 d3 q r o : Ob_T) (H : Heap) (locs : List Loc), RR_ x t n v w g q r o → K_S D A s (FL (BK_ aC a x t n n2 v d v2 d2 g w v3 d3 q r o) A15) H locs → W p l e room_1 s m args below meth c H locs 86 1484 Q (F0 m 1002 ls [])) : W p l e room_1 s m args below meth c H locs 86 1484 Q (F0 m 304 ls []) := by
  obtain ⟨hx, hb, hml, hown, hts, hK, hA, hlk⟩ := id hX
  obtain ⟨u, hu, y, hy, e1⟩ := rr_as h (xs (nI i + 1).toNatClampNeg) (xs (nI i + 2).toNatClampNeg)
  refine lv_aload_n hx hb dL_law_304 rfl (lv_at hl 1 rfl) ?_
  refine lv_aload_n hx hb dL_law_305 rfl (lv_at hl 0 rfl) ?_
  refine lv_iload_n hx hb dL_law_306 rfl (lv_at hl 3 rfl) ?_
  refine lv_iconst (v := 1) hx hb dL_law_307 (by decide) ?_
  refine lv_iadd hx hb dL_law_308 ?_
  refine va_sld hx hb hSc hbl hbA hZ.2.2 (sc_in (j := 1) (by omega) hL) dL_law_309 ?_
  refine lv_aload_n hx hb dL_law_310 rfl (lv_at hl 0 rfl) ?_
  refine lv_iload_n hx hb dL_law_311 rfl (lv_at hl 3 rfl) ?_
  refine lv_iconst (v := 2) hx hb dL_law_312 (by decide) ?_
  refine lv_iadd hx hb dL_law_313 ?_
  refine va_sld hx hb hSc hbl hbA hZ.2.2 (sc_in (j := 2) (by omega) hL) dL_law_314 ?_
  refine k_LRE hE (B := BK_ aC a x t n n2 v d v2 d2 g w v3 d3 q r o) (As := [.int (xs (nI i + 1).toNatClampNeg), .int (xs (nI i + 2).toNatClampNeg)]) (rest := []) (v := some (.int u)) (st1 := [.int u]) hX hl.1 [0, 2] [1, 3, 4, 5, 6, 7, 8, 9, 10, 11, 12, 13, 14] A15 hZ (by decide) (c_X8_as (aC := aC) (a_x := a 0) (a_n := a 2) (a_t := a 1) (a_n2 := a 3) (a_v := a 4) (a_v2 := a 6) (a_g := a 8) (a_w := a 9) (a_q := a 12) (a_r := a 13) x n (xs (nI i + 1).toNatClampNeg) (xs (nI i + 2).toNatClampNeg) hu) (gv_ wyn_51 wyn_52 wyn_53 wyn_4 wyn_54) rfl hd_X8_as ⟨rfl, rfl⟩ 8 rfl rfl rfl rfl rfl dL_law_315 rfl ⟨rfl, rfl⟩ (fun locs hZ => ?_)
  refine lv_aload_n hx hb dL_law_318 rfl (lv_at hl 2 rfl) ?_
  refine lv_aload_n hx hb dL_law_319 rfl (lv_at hl 0 rfl) ?_
  refine lv_iload_n hx hb dL_law_320 rfl (lv_at hl 3 rfl) ?_
  refine lv_iconst (v := 1) hx hb dL_law_321 (by decide) ?_
  refine lv_iadd hx hb dL_law_322 ?_
  refine va_sld hx hb hSc hbl hbA hZ.2.2 (sc_in (j := 1) (by omega) hL) dL_law_323 ?_
  refine lv_aload_n hx hb dL_law_324 rfl (lv_at hl 0 rfl) ?_
  refine lv_iload_n hx hb dL_law_325 rfl (lv_at hl 3 rfl) ?_
  refine lv_iconst (v := 2) hx hb dL_law_326 (by decide) ?_
  refine lv_iadd hx hb dL_law_327 ?_
  refine va_sld hx hb hSc hbl hbA hZ.2.2 (sc_in (j := 2) (by omega) hL) dL_law_328 ?_
  refine k_LR (B := BK_ aC a x t n n2 v d v2 d2 g w v3 d3 q r o) (As := [.int (xs (nI i + 1).toNatClampNeg), .int (xs (nI i + 2).toNatClampNeg)]) (rest := [.int u]) (v := some (.int y)) (st1 := [.int y, .int u]) hX hl.1 [14] [0, 1, 2, 3, 4, 5, 6, 7, 8, 9, 10, 11, 12, 13] A15 hZ (by decide) (c_X9_as (aC := aC) (a_o := a 14) o (xs (nI i + 1).toNatClampNeg) (xs (nI i + 2).toNatClampNeg) hy) (gv_ wyn_55 wyn_56 wyn_57 wyn_9 wyn_58) rfl hd_X9_as ⟨rfl, rfl⟩ 9 rfl rfl rfl rfl rfl dL_law_329 rfl ⟨rfl, rfl⟩ (fun locs hZ => ?_)
  refine lv_icmp_eq (tgt := 1002) hx hb dL_law_332 (by decide) (fun _ => ?_) (fun cd => absurd e1 cd)
  exact kk _ _ _ _ _ _ _ _ _ _ _ _ _ _ _ _ _ h hZ
set_option maxHeartbeats 4000000 in
set_option maxRecDepth 100000 in
theorem lc_give (hE : EX_ adK adV tA A s s.heap) (hX : K_X p s m args meth c cL_law 4 WL_ RL D aC A) (hSc : va_X b L xs s s.heap) (hbl : b < s.heap.size) (hbA : ¬ A b) (hi : i + 6 ≤ L) (hL : L ≤ 3072) (h : RR_ x t n v w g q r o) (hZ : K_S D A s (FL (BK_ aC a x t n n2 v d v2 d2 g w v3 d3 q r o) A15) H locs) (hl : lv_has ls 4 [(0, .ref b), (1, .ref (a 0 0)), (2, .ref (a 14 0)), (3, .int (nI i))]) (kk : ∀ (x t n n2 v d v2 d2 g w v3 d3 q r o : Ob_T) (H : Heap) (locs : List Loc), RR_ x t n v w g q r o → K_S D A s (FL (BK_ aC a x t n n2 v d v2 d2 g w v3 d3 q r o) A15) H locs → W p l e room_1 s m args below meth c H locs 86 1484 Q (F0 m 1002 ls [])) : W p l e room_1 s m args below meth c H locs 86 1484 Q (F0 m 337 ls []) := by
  obtain ⟨hx, hb, hml, hown, hts, hK, hA, hlk⟩ := id hX
  obtain ⟨u, hu, y, hy, e1, hR⟩ := rr_give h (xs (nI i + 1).toNatClampNeg) (xs (nI i + 2).toNatClampNeg)
  refine lv_aload_n hx hb dL_law_337 rfl (lv_at hl 1 rfl) ?_
  refine lv_aload_n hx hb dL_law_338 rfl (lv_at hl 0 rfl) ?_
  refine lv_iload_n hx hb dL_law_339 rfl (lv_at hl 3 rfl) ?_
  refine lv_iconst (v := 1) hx hb dL_law_340 (by decide) ?_
  refine lv_iadd hx hb dL_law_341 ?_
  refine va_sld hx hb hSc hbl hbA hZ.2.2 (sc_in (j := 1) (by omega) hL) dL_law_342 ?_
  refine lv_aload_n hx hb dL_law_343 rfl (lv_at hl 0 rfl) ?_
  refine lv_iload_n hx hb dL_law_344 rfl (lv_at hl 3 rfl) ?_
  refine lv_iconst (v := 2) hx hb dL_law_345 (by decide) ?_
  refine lv_iadd hx hb dL_law_346 ?_
  refine va_sld hx hb hSc hbl hbA hZ.2.2 (sc_in (j := 2) (by omega) hL) dL_law_347 ?_
  refine k_LW (B := BK_ aC a x t n n2 v d v2 d2 g w v3 d3 q r o) (B' := BK_ aC a u.2.1 t n n2 v d v2 d2 u.2.2 w v3 d3 q r o) (As := [.int (xs (nI i + 1).toNatClampNeg), .int (xs (nI i + 2).toNatClampNeg)]) (rest := []) (v := some (.int u.1)) (st1 := [.int u.1]) hX hl.1 [0, 8] [1, 2, 3, 4, 5, 6, 7, 9, 10, 11, 12, 13, 14] A15 hZ (by decide) (c_X8_give (aC := aC) (a_x := a 0) (a_g := a 8) (a_t := a 1) (a_n := a 2) (a_n2 := a 3) (a_v := a 4) (a_v2 := a 6) (a_w := a 9) (a_q := a 12) (a_r := a 13) x g (xs (nI i + 1).toNatClampNeg) (xs (nI i + 2).toNatClampNeg) hu) rfl rfl (gv_ wyn_59 wyn_60 wyn_61 wyn_4 wyn_62) rfl hd_X8_give ⟨rfl, rfl⟩ 8 rfl rfl rfl rfl rfl dL_law_348 rfl ⟨rfl, rfl⟩ (fun H locs hZ => ?_)
  refine lv_aload_n hx hb dL_law_351 rfl (lv_at hl 2 rfl) ?_
  refine lv_aload_n hx hb dL_law_352 rfl (lv_at hl 0 rfl) ?_
  refine lv_iload_n hx hb dL_law_353 rfl (lv_at hl 3 rfl) ?_
  refine lv_iconst (v := 1) hx hb dL_law_354 (by decide) ?_
  refine lv_iadd hx hb dL_law_355 ?_
  refine va_sld hx hb hSc hbl hbA hZ.2.2 (sc_in (j := 1) (by omega) hL) dL_law_356 ?_
  refine lv_aload_n hx hb dL_law_357 rfl (lv_at hl 0 rfl) ?_
  refine lv_iload_n hx hb dL_law_358 rfl (lv_at hl 3 rfl) ?_
  refine lv_iconst (v := 2) hx hb dL_law_359 (by decide) ?_
  refine lv_iadd hx hb dL_law_360 ?_
  refine va_sld hx hb hSc hbl hbA hZ.2.2 (sc_in (j := 2) (by omega) hL) dL_law_361 ?_
  refine k_LW (B := BK_ aC a u.2.1 t n n2 v d v2 d2 u.2.2 w v3 d3 q r o) (B' := BK_ aC a u.2.1 t n n2 v d v2 d2 u.2.2 w v3 d3 q r y.2) (As := [.int (xs (nI i + 1).toNatClampNeg), .int (xs (nI i + 2).toNatClampNeg)]) (rest := [.int u.1]) (v := some (.int y.1)) (st1 := [.int y.1, .int u.1]) hX hl.1 [14] [0, 1, 2, 3, 4, 5, 6, 7, 8, 9, 10, 11, 12, 13] A15 hZ (by decide) (c_X9_give (aC := aC) (a_o := a 14) o (xs (nI i + 1).toNatClampNeg) (xs (nI i + 2).toNatClampNeg) hy) rfl rfl (gv_ wyn_63 wyn_64 wyn_65 wyn_9 wyn_66) rfl hd_X9_give ⟨rfl, rfl⟩ 9 rfl rfl rfl rfl rfl dL_law_362 rfl ⟨rfl, rfl⟩ (fun H locs hZ => ?_)
  refine lv_icmp_eq (tgt := 1002) hx hb dL_law_365 (by decide) (fun _ => ?_) (fun cd => absurd e1 cd)
  exact kk _ _ _ _ _ _ _ _ _ _ _ _ _ _ _ _ _ hR hZ
end LAWC
