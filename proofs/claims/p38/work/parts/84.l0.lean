abbrev mL_law_ : Ym := (yL_law_, cL_law_, 7, some .boolean)
theorem dL_law__252 : decode cL_law_ 252 = .ok (.aload_n 1, 1) := by decide +kernel
theorem dL_law__253 : decode cL_law_ 253 = .ok (.aload_n 0, 1) := by decide +kernel
theorem dL_law__254 : decode cL_law_ 254 = .ok (.iload 4, 2) := by decide +kernel
theorem dL_law__256 : decode cL_law_ 256 = .ok (.iconst 1, 1) := by decide +kernel
theorem dL_law__257 : decode cL_law_ 257 = .ok (.iadd, 1) := by decide +kernel
theorem dL_law__258 : decode cL_law_ 258 = .ok (.iaload, 1) := by decide +kernel
theorem dL_law__259 : decode cL_law_ 259 = .ok (.aload_n 0, 1) := by decide +kernel
theorem dL_law__260 : decode cL_law_ 260 = .ok (.iload 4, 2) := by decide +kernel
theorem dL_law__262 : decode cL_law_ 262 = .ok (.iconst 2, 1) := by decide +kernel
theorem dL_law__263 : decode cL_law_ 263 = .ok (.iadd, 1) := by decide +kernel
theorem dL_law__264 : decode cL_law_ 264 = .ok (.iaload, 1) := by decide +kernel
theorem dL_law__265 : decode cL_law_ 265 = .ok (.aload_n 0, 1) := by decide +kernel
theorem dL_law__266 : decode cL_law_ 266 = .ok (.iload 4, 2) := by decide +kernel
theorem dL_law__268 : decode cL_law_ 268 = .ok (.iconst 3, 1) := by decide +kernel
theorem dL_law__269 : decode cL_law_ 269 = .ok (.iadd, 1) := by decide +kernel
theorem dL_law__270 : decode cL_law_ 270 = .ok (.iaload, 1) := by decide +kernel
theorem dL_law__271 : decode cL_law_ 271 = .ok (.aload_n 0, 1) := by decide +kernel
theorem dL_law__272 : decode cL_law_ 272 = .ok (.iload 4, 2) := by decide +kernel
theorem dL_law__274 : decode cL_law_ 274 = .ok (.iconst 4, 1) := by decide +kernel
theorem dL_law__275 : decode cL_law_ 275 = .ok (.iadd, 1) := by decide +kernel
theorem dL_law__276 : decode cL_law_ 276 = .ok (.iaload, 1) := by decide +kernel
theorem dL_law__277 : decode cL_law_ 277 = .ok (.aload_n 0, 1) := by decide +kernel
theorem dL_law__278 : decode cL_law_ 278 = .ok (.iload 4, 2) := by decide +kernel
theorem dL_law__280 : decode cL_law_ 280 = .ok (.iconst 5, 1) := by decide +kernel
theorem dL_law__281 : decode cL_law_ 281 = .ok (.iadd, 1) := by decide +kernel
theorem dL_law__282 : decode cL_law_ 282 = .ok (.iaload, 1) := by decide +kernel
theorem dL_law__283 : decode cL_law_ 283 = .ok (.invokevirtual 130, 3) := by decide +kernel
theorem wi_401 : Cond.methodLink RL 130 yX9_feed ∈ WA := zin 401 (by decide +kernel) (by decide +kernel)
theorem wi_404 : Cond.code yX9_feed cX9_feed 6 (some .int) ∈ WA := zin 404 (by decide +kernel) (by decide +kernel)
theorem wi_402 : Cond.instanceMethod yX9_feed ∈ WA := zin 402 (by decide +kernel) (by decide +kernel)
theorem wi_403 : Cond.selects RX9 yX9_feed yX9_feed ∈ WA := zin 403 (by decide +kernel) (by decide +kernel)
theorem mv_L_130 : zMv RL 130 RX9 mX9_feed 5 := ⟨⟨wi_401, wi_100, wi_404, by decide, by decide +kernel⟩, wi_402, wi_403⟩
theorem dL_law__286 : decode cL_law_ 286 = .ok (.pop, 1) := by decide +kernel
theorem dL_law__287 : decode cL_law_ 287 = .ok (.aload_n 2, 1) := by decide +kernel
theorem dL_law__288 : decode cL_law_ 288 = .ok (.aload_n 0, 1) := by decide +kernel
theorem dL_law__289 : decode cL_law_ 289 = .ok (.iload 4, 2) := by decide +kernel
theorem dL_law__291 : decode cL_law_ 291 = .ok (.iconst 1, 1) := by decide +kernel
theorem dL_law__292 : decode cL_law_ 292 = .ok (.iadd, 1) := by decide +kernel
theorem dL_law__293 : decode cL_law_ 293 = .ok (.iaload, 1) := by decide +kernel
theorem dL_law__294 : decode cL_law_ 294 = .ok (.aload_n 0, 1) := by decide +kernel
theorem dL_law__295 : decode cL_law_ 295 = .ok (.iload 4, 2) := by decide +kernel
theorem dL_law__297 : decode cL_law_ 297 = .ok (.iconst 2, 1) := by decide +kernel
theorem dL_law__298 : decode cL_law_ 298 = .ok (.iadd, 1) := by decide +kernel
theorem dL_law__299 : decode cL_law_ 299 = .ok (.iaload, 1) := by decide +kernel
theorem dL_law__300 : decode cL_law_ 300 = .ok (.aload_n 0, 1) := by decide +kernel
theorem dL_law__301 : decode cL_law_ 301 = .ok (.iload 4, 2) := by decide +kernel
theorem dL_law__303 : decode cL_law_ 303 = .ok (.iconst 3, 1) := by decide +kernel
theorem dL_law__304 : decode cL_law_ 304 = .ok (.iadd, 1) := by decide +kernel
theorem dL_law__305 : decode cL_law_ 305 = .ok (.iaload, 1) := by decide +kernel
theorem dL_law__306 : decode cL_law_ 306 = .ok (.aload_n 0, 1) := by decide +kernel
theorem dL_law__307 : decode cL_law_ 307 = .ok (.iload 4, 2) := by decide +kernel
theorem dL_law__309 : decode cL_law_ 309 = .ok (.iconst 4, 1) := by decide +kernel
theorem dL_law__310 : decode cL_law_ 310 = .ok (.iadd, 1) := by decide +kernel
theorem dL_law__311 : decode cL_law_ 311 = .ok (.iaload, 1) := by decide +kernel
theorem dL_law__312 : decode cL_law_ 312 = .ok (.aload_n 0, 1) := by decide +kernel
theorem dL_law__313 : decode cL_law_ 313 = .ok (.iload 4, 2) := by decide +kernel
theorem dL_law__315 : decode cL_law_ 315 = .ok (.iconst 5, 1) := by decide +kernel
theorem dL_law__316 : decode cL_law_ 316 = .ok (.iadd, 1) := by decide +kernel
theorem dL_law__317 : decode cL_law_ 317 = .ok (.iaload, 1) := by decide +kernel
theorem dL_law__318 : decode cL_law_ 318 = .ok (.invokevirtual 134, 3) := by decide +kernel
theorem wi_1341 : Cond.methodLink RL 134 yX10_feed ∈ WA := zin 1341 (by decide +kernel) (by decide +kernel)
theorem wi_1344 : Cond.code yX10_feed cX10_feed 7 (some .int) ∈ WA := zin 1344 (by decide +kernel) (by decide +kernel)
theorem wi_1342 : Cond.instanceMethod yX10_feed ∈ WA := zin 1342 (by decide +kernel) (by decide +kernel)
theorem wi_1343 : Cond.selects RX10 yX10_feed yX10_feed ∈ WA := zin 1343 (by decide +kernel) (by decide +kernel)
theorem mv_L_134 : zMv RL 134 RX10 mX10_feed 5 := ⟨⟨wi_1341, wi_110, wi_1344, by decide, by decide +kernel⟩, wi_1342, wi_1343⟩
theorem dL_law__321 : decode cL_law_ 321 = .ok (.pop, 1) := by decide +kernel
theorem dL_law__322 : decode cL_law_ 322 = .ok (.goto 1460, 3) := by decide +kernel
theorem dL_law__325 : decode cL_law_ 325 = .ok (.aload_n 1, 1) := by decide +kernel
theorem dL_law__326 : decode cL_law_ 326 = .ok (.aload_n 0, 1) := by decide +kernel
theorem dL_law__327 : decode cL_law_ 327 = .ok (.iload 4, 2) := by decide +kernel
theorem dL_law__329 : decode cL_law_ 329 = .ok (.iconst 1, 1) := by decide +kernel
theorem dL_law__330 : decode cL_law_ 330 = .ok (.iadd, 1) := by decide +kernel
theorem dL_law__331 : decode cL_law_ 331 = .ok (.iaload, 1) := by decide +kernel
theorem dL_law__332 : decode cL_law_ 332 = .ok (.invokevirtual 135, 3) := by decide +kernel
theorem wi_409 : Cond.methodLink RL 135 yX9_end ∈ WA := zin 409 (by decide +kernel) (by decide +kernel)
theorem wi_412 : Cond.code yX9_end cX9_end 2 (some .boolean) ∈ WA := zin 412 (by decide +kernel) (by decide +kernel)
theorem wi_410 : Cond.instanceMethod yX9_end ∈ WA := zin 410 (by decide +kernel) (by decide +kernel)
theorem wi_411 : Cond.selects RX9 yX9_end yX9_end ∈ WA := zin 411 (by decide +kernel) (by decide +kernel)
theorem mv_L_135 : zMv RL 135 RX9 mX9_end 1 := ⟨⟨wi_409, wi_100, wi_412, by decide, by decide +kernel⟩, wi_410, wi_411⟩
theorem dL_law__335 : decode cL_law_ 335 = .ok (.pop, 1) := by decide +kernel
theorem dL_law__336 : decode cL_law_ 336 = .ok (.aload_n 2, 1) := by decide +kernel
theorem dL_law__337 : decode cL_law_ 337 = .ok (.aload_n 0, 1) := by decide +kernel
theorem dL_law__338 : decode cL_law_ 338 = .ok (.iload 4, 2) := by decide +kernel
theorem dL_law__340 : decode cL_law_ 340 = .ok (.iconst 1, 1) := by decide +kernel
theorem dL_law__341 : decode cL_law_ 341 = .ok (.iadd, 1) := by decide +kernel
theorem dL_law__342 : decode cL_law_ 342 = .ok (.iaload, 1) := by decide +kernel
theorem dL_law__343 : decode cL_law_ 343 = .ok (.invokevirtual 138, 3) := by decide +kernel
theorem wi_1345 : Cond.methodLink RL 138 yX10_end ∈ WA := zin 1345 (by decide +kernel) (by decide +kernel)
theorem wi_1348 : Cond.code yX10_end cX10_end 2 (some .boolean) ∈ WA := zin 1348 (by decide +kernel) (by decide +kernel)
theorem wi_1346 : Cond.instanceMethod yX10_end ∈ WA := zin 1346 (by decide +kernel) (by decide +kernel)
theorem wi_1347 : Cond.selects RX10 yX10_end yX10_end ∈ WA := zin 1347 (by decide +kernel) (by decide +kernel)
theorem mv_L_138 : zMv RL 138 RX10 mX10_end 1 := ⟨⟨wi_1345, wi_110, wi_1348, by decide, by decide +kernel⟩, wi_1346, wi_1347⟩
theorem dL_law__346 : decode cL_law_ 346 = .ok (.pop, 1) := by decide +kernel
theorem dL_law__347 : decode cL_law_ 347 = .ok (.goto 1435, 3) := by decide +kernel
theorem dL_law__350 : decode cL_law_ 350 = .ok (.aload_n 1, 1) := by decide +kernel
theorem dL_law__351 : decode cL_law_ 351 = .ok (.aload_n 3, 1) := by decide +kernel
theorem dL_law__352 : decode cL_law_ 352 = .ok (.invokestatic 139, 3) := by decide +kernel
theorem wi_546 : Cond.codeWith yL_coast cL_coast 3 (some .int) [(0, 8, 11, 13), (0, 8, 14, 15)] ∈ WA := zin 546 (by decide +kernel) (by decide +kernel)
theorem wi_544 : Cond.methodLink RL 139 yL_coast ∈ WA := zin 544 (by decide +kernel) (by decide +kernel)
theorem wi_99 : Cond.initialized RL ∈ WA := zin 99 (by decide +kernel) (by decide +kernel)
theorem wi_545 : Cond.static yL_coast ∈ WA := zin 545 (by decide +kernel) (by decide +kernel)
theorem mw_L_139 : zMw RL 139 mL_coast [(0, 8, 11, 13), (0, 8, 14, 15)] 2 := ⟨wi_544, wi_99, wi_546, by decide, by decide +kernel, wi_545⟩
theorem dL_law__355 : decode cL_law_ 355 = .ok (.istore 5, 2) := by decide +kernel
theorem dL_law__357 : decode cL_law_ 357 = .ok (.aload_n 2, 1) := by decide +kernel
theorem dL_law__358 : decode cL_law_ 358 = .ok (.invokevirtual 144, 3) := by decide +kernel
theorem wi_1353 : Cond.methodLink RL 144 yX10_coast ∈ WA := zin 1353 (by decide +kernel) (by decide +kernel)
theorem wi_1356 : Cond.code yX10_coast cX10_coast 3 (some .int) ∈ WA := zin 1356 (by decide +kernel) (by decide +kernel)
theorem wi_1354 : Cond.instanceMethod yX10_coast ∈ WA := zin 1354 (by decide +kernel) (by decide +kernel)
theorem wi_1355 : Cond.selects RX10 yX10_coast yX10_coast ∈ WA := zin 1355 (by decide +kernel) (by decide +kernel)
theorem mv_L_144 : zMv RL 144 RX10 mX10_coast 0 := ⟨⟨wi_1353, wi_110, wi_1356, by decide, by decide +kernel⟩, wi_1354, wi_1355⟩
theorem dL_law__361 : decode cL_law_ 361 = .ok (.istore 6, 2) := by decide +kernel
theorem dL_law__363 : decode cL_law_ 363 = .ok (.goto 1419, 3) := by decide +kernel
theorem dL_law__366 : decode cL_law_ 366 = .ok (.aload_n 1, 1) := by decide +kernel
theorem dL_law__367 : decode cL_law_ 367 = .ok (.aload_n 3, 1) := by decide +kernel
theorem dL_law__368 : decode cL_law_ 368 = .ok (.invokestatic 145, 3) := by decide +kernel
theorem wi_761 : Cond.codeWith yL_law cL_law 3 (some .int) [(0, 8, 11, 13)] ∈ WA := zin 761 (by decide +kernel) (by decide +kernel)
theorem wi_759 : Cond.methodLink RL 145 yL_law ∈ WA := zin 759 (by decide +kernel) (by decide +kernel)
theorem wi_760 : Cond.static yL_law ∈ WA := zin 760 (by decide +kernel) (by decide +kernel)
theorem mw_L_145 : zMw RL 145 mL_law [(0, 8, 11, 13)] 2 := ⟨wi_759, wi_99, wi_761, by decide, by decide +kernel, wi_760⟩
theorem dL_law__371 : decode cL_law_ 371 = .ok (.istore 5, 2) := by decide +kernel
theorem dL_law__373 : decode cL_law_ 373 = .ok (.aload_n 2, 1) := by decide +kernel
theorem dL_law__374 : decode cL_law_ 374 = .ok (.invokevirtual 147, 3) := by decide +kernel
theorem wi_1546 : Cond.methodLink RL 147 yX10_law ∈ WA := zin 1546 (by decide +kernel) (by decide +kernel)
theorem wi_1549 : Cond.code yX10_law cX10_law 3 (some .int) ∈ WA := zin 1549 (by decide +kernel) (by decide +kernel)
theorem wi_1547 : Cond.instanceMethod yX10_law ∈ WA := zin 1547 (by decide +kernel) (by decide +kernel)
theorem wi_1548 : Cond.selects RX10 yX10_law yX10_law ∈ WA := zin 1548 (by decide +kernel) (by decide +kernel)
theorem mv_L_147 : zMv RL 147 RX10 mX10_law 0 := ⟨⟨wi_1546, wi_110, wi_1549, by decide, by decide +kernel⟩, wi_1547, wi_1548⟩
theorem dL_law__377 : decode cL_law_ 377 = .ok (.istore 6, 2) := by decide +kernel
theorem dL_law__379 : decode cL_law_ 379 = .ok (.goto 1403, 3) := by decide +kernel
theorem dL_law__382 : decode cL_law_ 382 = .ok (.aload_n 1, 1) := by decide +kernel
theorem dL_law__383 : decode cL_law_ 383 = .ok (.invokevirtual 148, 3) := by decide +kernel
theorem wi_413 : Cond.methodLink RL 148 yX9_fault ∈ WA := zin 413 (by decide +kernel) (by decide +kernel)
theorem wi_416 : Cond.code yX9_fault cX9_fault 1 (some .int) ∈ WA := zin 416 (by decide +kernel) (by decide +kernel)
theorem wi_414 : Cond.instanceMethod yX9_fault ∈ WA := zin 414 (by decide +kernel) (by decide +kernel)
theorem wi_415 : Cond.selects RX9 yX9_fault yX9_fault ∈ WA := zin 415 (by decide +kernel) (by decide +kernel)
theorem mv_L_148 : zMv RL 148 RX9 mX9_fault 0 := ⟨⟨wi_413, wi_100, wi_416, by decide, by decide +kernel⟩, wi_414, wi_415⟩
theorem dL_law__386 : decode cL_law_ 386 = .ok (.pop, 1) := by decide +kernel
theorem dL_law__387 : decode cL_law_ 387 = .ok (.aload_n 2, 1) := by decide +kernel
theorem dL_law__388 : decode cL_law_ 388 = .ok (.invokevirtual 151, 3) := by decide +kernel
theorem wi_1349 : Cond.methodLink RL 151 yX10_fault ∈ WA := zin 1349 (by decide +kernel) (by decide +kernel)
theorem wi_1352 : Cond.code yX10_fault cX10_fault 1 (some .int) ∈ WA := zin 1352 (by decide +kernel) (by decide +kernel)
theorem wi_1350 : Cond.instanceMethod yX10_fault ∈ WA := zin 1350 (by decide +kernel) (by decide +kernel)
theorem wi_1351 : Cond.selects RX10 yX10_fault yX10_fault ∈ WA := zin 1351 (by decide +kernel) (by decide +kernel)
theorem mv_L_151 : zMv RL 151 RX10 mX10_fault 0 := ⟨⟨wi_1349, wi_110, wi_1352, by decide, by decide +kernel⟩, wi_1350, wi_1351⟩
theorem dL_law__391 : decode cL_law_ 391 = .ok (.pop, 1) := by decide +kernel
theorem dL_law__392 : decode cL_law_ 392 = .ok (.goto 1390, 3) := by decide +kernel
theorem dL_law__395 : decode cL_law_ 395 = .ok (.aload_n 1, 1) := by decide +kernel
theorem dL_law__396 : decode cL_law_ 396 = .ok (.aload_n 0, 1) := by decide +kernel
theorem dL_law__397 : decode cL_law_ 397 = .ok (.iload 4, 2) := by decide +kernel
theorem dL_law__399 : decode cL_law_ 399 = .ok (.iconst 1, 1) := by decide +kernel
theorem dL_law__400 : decode cL_law_ 400 = .ok (.iadd, 1) := by decide +kernel
theorem dL_law__401 : decode cL_law_ 401 = .ok (.iaload, 1) := by decide +kernel
theorem dL_law__402 : decode cL_law_ 402 = .ok (.aload_n 0, 1) := by decide +kernel
theorem dL_law__403 : decode cL_law_ 403 = .ok (.iload 4, 2) := by decide +kernel
theorem dL_law__405 : decode cL_law_ 405 = .ok (.iconst 2, 1) := by decide +kernel
theorem dL_law__406 : decode cL_law_ 406 = .ok (.iadd, 1) := by decide +kernel
theorem dL_law__407 : decode cL_law_ 407 = .ok (.iaload, 1) := by decide +kernel
theorem dL_law__408 : decode cL_law_ 408 = .ok (.aload_n 3, 1) := by decide +kernel
theorem dL_law__409 : decode cL_law_ 409 = .ok (.invokestatic 152, 3) := by decide +kernel
theorem wi_775 : Cond.codeWith yL_woman cL_woman 5 (some .int) [(0, 10, 13, 24), (0, 10, 17, 26)] ∈ WA := zin 775 (by decide +kernel) (by decide +kernel)
theorem wi_773 : Cond.methodLink RL 152 yL_woman ∈ WA := zin 773 (by decide +kernel) (by decide +kernel)
theorem wi_774 : Cond.static yL_woman ∈ WA := zin 774 (by decide +kernel) (by decide +kernel)
theorem mw_L_152 : zMw RL 152 mL_woman [(0, 10, 13, 24), (0, 10, 17, 26)] 4 := ⟨wi_773, wi_99, wi_775, by decide, by decide +kernel, wi_774⟩
theorem dL_law__412 : decode cL_law_ 412 = .ok (.istore 5, 2) := by decide +kernel
theorem dL_law__414 : decode cL_law_ 414 = .ok (.aload_n 2, 1) := by decide +kernel
theorem dL_law__415 : decode cL_law_ 415 = .ok (.aload_n 0, 1) := by decide +kernel
theorem dL_law__416 : decode cL_law_ 416 = .ok (.iload 4, 2) := by decide +kernel
theorem dL_law__418 : decode cL_law_ 418 = .ok (.iconst 1, 1) := by decide +kernel
theorem dL_law__419 : decode cL_law_ 419 = .ok (.iadd, 1) := by decide +kernel
theorem dL_law__420 : decode cL_law_ 420 = .ok (.iaload, 1) := by decide +kernel
theorem dL_law__421 : decode cL_law_ 421 = .ok (.aload_n 0, 1) := by decide +kernel
theorem dL_law__422 : decode cL_law_ 422 = .ok (.iload 4, 2) := by decide +kernel
theorem dL_law__424 : decode cL_law_ 424 = .ok (.iconst 2, 1) := by decide +kernel
theorem dL_law__425 : decode cL_law_ 425 = .ok (.iadd, 1) := by decide +kernel
theorem dL_law__426 : decode cL_law_ 426 = .ok (.iaload, 1) := by decide +kernel
theorem dL_law__427 : decode cL_law_ 427 = .ok (.invokevirtual 155, 3) := by decide +kernel
theorem wi_1550 : Cond.methodLink RL 155 yX10_woman ∈ WA := zin 1550 (by decide +kernel) (by decide +kernel)
theorem wi_1553 : Cond.code yX10_woman cX10_woman 3 (some .int) ∈ WA := zin 1553 (by decide +kernel) (by decide +kernel)
theorem wi_1551 : Cond.instanceMethod yX10_woman ∈ WA := zin 1551 (by decide +kernel) (by decide +kernel)
theorem wi_1552 : Cond.selects RX10 yX10_woman yX10_woman ∈ WA := zin 1552 (by decide +kernel) (by decide +kernel)
theorem mv_L_155 : zMv RL 155 RX10 mX10_woman 2 := ⟨⟨wi_1550, wi_110, wi_1553, by decide, by decide +kernel⟩, wi_1551, wi_1552⟩
theorem dL_law__430 : decode cL_law_ 430 = .ok (.istore 6, 2) := by decide +kernel
theorem dL_law__432 : decode cL_law_ 432 = .ok (.goto 1350, 3) := by decide +kernel
theorem dL_law__435 : decode cL_law_ 435 = .ok (.aload_n 1, 1) := by decide +kernel
theorem dL_law__436 : decode cL_law_ 436 = .ok (.aload_n 0, 1) := by decide +kernel
theorem dL_law__437 : decode cL_law_ 437 = .ok (.iload 4, 2) := by decide +kernel
theorem dL_law__439 : decode cL_law_ 439 = .ok (.iconst 1, 1) := by decide +kernel
theorem dL_law__440 : decode cL_law_ 440 = .ok (.iadd, 1) := by decide +kernel
theorem dL_law__441 : decode cL_law_ 441 = .ok (.iaload, 1) := by decide +kernel
theorem dL_law__442 : decode cL_law_ 442 = .ok (.aload_n 0, 1) := by decide +kernel
theorem dL_law__443 : decode cL_law_ 443 = .ok (.iload 4, 2) := by decide +kernel
theorem dL_law__445 : decode cL_law_ 445 = .ok (.iconst 2, 1) := by decide +kernel
theorem dL_law__446 : decode cL_law_ 446 = .ok (.iadd, 1) := by decide +kernel
theorem dL_law__447 : decode cL_law_ 447 = .ok (.iaload, 1) := by decide +kernel
theorem dL_law__448 : decode cL_law_ 448 = .ok (.aload_n 3, 1) := by decide +kernel
theorem dL_law__449 : decode cL_law_ 449 = .ok (.invokestatic 156, 3) := by decide +kernel
theorem wi_821 : Cond.codeWith yL_thing cL_thing 5 (some .int) [(0, 10, 13, 24), (0, 10, 17, 26)] ∈ WA := zin 821 (by decide +kernel) (by decide +kernel)
theorem wi_819 : Cond.methodLink RL 156 yL_thing ∈ WA := zin 819 (by decide +kernel) (by decide +kernel)
theorem wi_820 : Cond.static yL_thing ∈ WA := zin 820 (by decide +kernel) (by decide +kernel)
theorem mw_L_156 : zMw RL 156 mL_thing [(0, 10, 13, 24), (0, 10, 17, 26)] 4 := ⟨wi_819, wi_99, wi_821, by decide, by decide +kernel, wi_820⟩
theorem dL_law__452 : decode cL_law_ 452 = .ok (.istore 5, 2) := by decide +kernel
theorem dL_law__454 : decode cL_law_ 454 = .ok (.aload_n 2, 1) := by decide +kernel
theorem dL_law__455 : decode cL_law_ 455 = .ok (.aload_n 0, 1) := by decide +kernel
theorem dL_law__456 : decode cL_law_ 456 = .ok (.iload 4, 2) := by decide +kernel
theorem dL_law__458 : decode cL_law_ 458 = .ok (.iconst 1, 1) := by decide +kernel
theorem dL_law__459 : decode cL_law_ 459 = .ok (.iadd, 1) := by decide +kernel
theorem dL_law__460 : decode cL_law_ 460 = .ok (.iaload, 1) := by decide +kernel
theorem dL_law__461 : decode cL_law_ 461 = .ok (.aload_n 0, 1) := by decide +kernel
theorem dL_law__462 : decode cL_law_ 462 = .ok (.iload 4, 2) := by decide +kernel
theorem dL_law__464 : decode cL_law_ 464 = .ok (.iconst 2, 1) := by decide +kernel
theorem dL_law__465 : decode cL_law_ 465 = .ok (.iadd, 1) := by decide +kernel
theorem dL_law__466 : decode cL_law_ 466 = .ok (.iaload, 1) := by decide +kernel
theorem dL_law__467 : decode cL_law_ 467 = .ok (.invokevirtual 158, 3) := by decide +kernel
theorem wi_1577 : Cond.methodLink RL 158 yX10_thing ∈ WA := zin 1577 (by decide +kernel) (by decide +kernel)
theorem wi_1580 : Cond.code yX10_thing cX10_thing 3 (some .int) ∈ WA := zin 1580 (by decide +kernel) (by decide +kernel)
theorem wi_1578 : Cond.instanceMethod yX10_thing ∈ WA := zin 1578 (by decide +kernel) (by decide +kernel)
theorem wi_1579 : Cond.selects RX10 yX10_thing yX10_thing ∈ WA := zin 1579 (by decide +kernel) (by decide +kernel)
theorem mv_L_158 : zMv RL 158 RX10 mX10_thing 2 := ⟨⟨wi_1577, wi_110, wi_1580, by decide, by decide +kernel⟩, wi_1578, wi_1579⟩
theorem dL_law__470 : decode cL_law_ 470 = .ok (.istore 6, 2) := by decide +kernel
theorem dL_law__472 : decode cL_law_ 472 = .ok (.goto 1310, 3) := by decide +kernel
theorem dL_law__475 : decode cL_law_ 475 = .ok (.aload_n 1, 1) := by decide +kernel
theorem dL_law__476 : decode cL_law_ 476 = .ok (.aload_n 0, 1) := by decide +kernel
theorem dL_law__477 : decode cL_law_ 477 = .ok (.iload 4, 2) := by decide +kernel
theorem dL_law__479 : decode cL_law_ 479 = .ok (.iconst 1, 1) := by decide +kernel
theorem dL_law__480 : decode cL_law_ 480 = .ok (.iadd, 1) := by decide +kernel
theorem dL_law__481 : decode cL_law_ 481 = .ok (.iaload, 1) := by decide +kernel
theorem dL_law__482 : decode cL_law_ 482 = .ok (.aload_n 0, 1) := by decide +kernel
theorem dL_law__483 : decode cL_law_ 483 = .ok (.iload 4, 2) := by decide +kernel
theorem dL_law__485 : decode cL_law_ 485 = .ok (.iconst 2, 1) := by decide +kernel
theorem dL_law__486 : decode cL_law_ 486 = .ok (.iadd, 1) := by decide +kernel
theorem dL_law__487 : decode cL_law_ 487 = .ok (.iaload, 1) := by decide +kernel
theorem dL_law__488 : decode cL_law_ 488 = .ok (.aload_n 3, 1) := by decide +kernel
theorem dL_law__489 : decode cL_law_ 489 = .ok (.invokestatic 159, 3) := by decide +kernel
theorem wi_835 : Cond.codeWith yL_gain cL_gain 5 (some .int) [(0, 10, 13, 24)] ∈ WA := zin 835 (by decide +kernel) (by decide +kernel)
theorem wi_833 : Cond.methodLink RL 159 yL_gain ∈ WA := zin 833 (by decide +kernel) (by decide +kernel)
theorem wi_834 : Cond.static yL_gain ∈ WA := zin 834 (by decide +kernel) (by decide +kernel)
theorem mw_L_159 : zMw RL 159 mL_gain [(0, 10, 13, 24)] 4 := ⟨wi_833, wi_99, wi_835, by decide, by decide +kernel, wi_834⟩
theorem dL_law__492 : decode cL_law_ 492 = .ok (.istore 5, 2) := by decide +kernel
theorem dL_law__494 : decode cL_law_ 494 = .ok (.aload_n 2, 1) := by decide +kernel
theorem dL_law__495 : decode cL_law_ 495 = .ok (.aload_n 0, 1) := by decide +kernel
theorem dL_law__496 : decode cL_law_ 496 = .ok (.iload 4, 2) := by decide +kernel
theorem dL_law__498 : decode cL_law_ 498 = .ok (.iconst 1, 1) := by decide +kernel
theorem dL_law__499 : decode cL_law_ 499 = .ok (.iadd, 1) := by decide +kernel
theorem dL_law__500 : decode cL_law_ 500 = .ok (.iaload, 1) := by decide +kernel
theorem dL_law__501 : decode cL_law_ 501 = .ok (.aload_n 0, 1) := by decide +kernel
theorem dL_law__502 : decode cL_law_ 502 = .ok (.iload 4, 2) := by decide +kernel
theorem dL_law__504 : decode cL_law_ 504 = .ok (.iconst 2, 1) := by decide +kernel
theorem dL_law__505 : decode cL_law_ 505 = .ok (.iadd, 1) := by decide +kernel
theorem dL_law__506 : decode cL_law_ 506 = .ok (.iaload, 1) := by decide +kernel
theorem dL_law__507 : decode cL_law_ 507 = .ok (.invokevirtual 161, 3) := by decide +kernel
theorem wi_1593 : Cond.methodLink RL 161 yX10_gain ∈ WA := zin 1593 (by decide +kernel) (by decide +kernel)
theorem wi_1596 : Cond.code yX10_gain cX10_gain 3 (some .int) ∈ WA := zin 1596 (by decide +kernel) (by decide +kernel)
theorem wi_1594 : Cond.instanceMethod yX10_gain ∈ WA := zin 1594 (by decide +kernel) (by decide +kernel)
theorem wi_1595 : Cond.selects RX10 yX10_gain yX10_gain ∈ WA := zin 1595 (by decide +kernel) (by decide +kernel)
theorem mv_L_161 : zMv RL 161 RX10 mX10_gain 2 := ⟨⟨wi_1593, wi_110, wi_1596, by decide, by decide +kernel⟩, wi_1594, wi_1595⟩
theorem dL_law__510 : decode cL_law_ 510 = .ok (.istore 6, 2) := by decide +kernel
theorem dL_law__512 : decode cL_law_ 512 = .ok (.goto 1270, 3) := by decide +kernel
theorem dL_law__515 : decode cL_law_ 515 = .ok (.aload_n 1, 1) := by decide +kernel
theorem dL_law__516 : decode cL_law_ 516 = .ok (.aload_n 0, 1) := by decide +kernel
theorem dL_law__517 : decode cL_law_ 517 = .ok (.iload 4, 2) := by decide +kernel
theorem dL_law__519 : decode cL_law_ 519 = .ok (.iconst 1, 1) := by decide +kernel
theorem dL_law__520 : decode cL_law_ 520 = .ok (.iadd, 1) := by decide +kernel
theorem dL_law__521 : decode cL_law_ 521 = .ok (.iaload, 1) := by decide +kernel
theorem dL_law__522 : decode cL_law_ 522 = .ok (.aload_n 0, 1) := by decide +kernel
theorem dL_law__523 : decode cL_law_ 523 = .ok (.iload 4, 2) := by decide +kernel
theorem dL_law__525 : decode cL_law_ 525 = .ok (.iconst 2, 1) := by decide +kernel
theorem dL_law__526 : decode cL_law_ 526 = .ok (.iadd, 1) := by decide +kernel
theorem dL_law__527 : decode cL_law_ 527 = .ok (.iaload, 1) := by decide +kernel
theorem dL_law__528 : decode cL_law_ 528 = .ok (.aload_n 0, 1) := by decide +kernel
theorem dL_law__529 : decode cL_law_ 529 = .ok (.iload 4, 2) := by decide +kernel
theorem dL_law__531 : decode cL_law_ 531 = .ok (.iconst 3, 1) := by decide +kernel
theorem dL_law__532 : decode cL_law_ 532 = .ok (.iadd, 1) := by decide +kernel
theorem dL_law__533 : decode cL_law_ 533 = .ok (.iaload, 1) := by decide +kernel
theorem dL_law__534 : decode cL_law_ 534 = .ok (.aload_n 3, 1) := by decide +kernel
theorem dL_law__535 : decode cL_law_ 535 = .ok (.invokestatic 162, 3) := by decide +kernel
theorem wi_873 : Cond.codeWith yL_flows cL_flows 6 (some .int) [(0, 12, 15, 24)] ∈ WA := zin 873 (by decide +kernel) (by decide +kernel)
theorem wi_871 : Cond.methodLink RL 162 yL_flows ∈ WA := zin 871 (by decide +kernel) (by decide +kernel)
theorem wi_872 : Cond.static yL_flows ∈ WA := zin 872 (by decide +kernel) (by decide +kernel)
theorem mw_L_162 : zMw RL 162 mL_flows [(0, 12, 15, 24)] 5 := ⟨wi_871, wi_99, wi_873, by decide, by decide +kernel, wi_872⟩
theorem dL_law__538 : decode cL_law_ 538 = .ok (.istore 5, 2) := by decide +kernel
theorem dL_law__540 : decode cL_law_ 540 = .ok (.aload_n 2, 1) := by decide +kernel
theorem dL_law__541 : decode cL_law_ 541 = .ok (.aload_n 0, 1) := by decide +kernel
theorem dL_law__542 : decode cL_law_ 542 = .ok (.iload 4, 2) := by decide +kernel
theorem dL_law__544 : decode cL_law_ 544 = .ok (.iconst 1, 1) := by decide +kernel
theorem dL_law__545 : decode cL_law_ 545 = .ok (.iadd, 1) := by decide +kernel
theorem dL_law__546 : decode cL_law_ 546 = .ok (.iaload, 1) := by decide +kernel
theorem dL_law__547 : decode cL_law_ 547 = .ok (.aload_n 0, 1) := by decide +kernel
theorem dL_law__548 : decode cL_law_ 548 = .ok (.iload 4, 2) := by decide +kernel
theorem dL_law__550 : decode cL_law_ 550 = .ok (.iconst 2, 1) := by decide +kernel
theorem dL_law__551 : decode cL_law_ 551 = .ok (.iadd, 1) := by decide +kernel
theorem dL_law__552 : decode cL_law_ 552 = .ok (.iaload, 1) := by decide +kernel
theorem dL_law__553 : decode cL_law_ 553 = .ok (.aload_n 0, 1) := by decide +kernel
theorem dL_law__554 : decode cL_law_ 554 = .ok (.iload 4, 2) := by decide +kernel
theorem dL_law__556 : decode cL_law_ 556 = .ok (.iconst 3, 1) := by decide +kernel
theorem dL_law__557 : decode cL_law_ 557 = .ok (.iadd, 1) := by decide +kernel
theorem dL_law__558 : decode cL_law_ 558 = .ok (.iaload, 1) := by decide +kernel
theorem dL_law__559 : decode cL_law_ 559 = .ok (.invokevirtual 165, 3) := by decide +kernel
theorem wi_1623 : Cond.methodLink RL 165 yX10_flows ∈ WA := zin 1623 (by decide +kernel) (by decide +kernel)
theorem wi_1626 : Cond.code yX10_flows cX10_flows 4 (some .int) ∈ WA := zin 1626 (by decide +kernel) (by decide +kernel)
theorem wi_1624 : Cond.instanceMethod yX10_flows ∈ WA := zin 1624 (by decide +kernel) (by decide +kernel)
theorem wi_1625 : Cond.selects RX10 yX10_flows yX10_flows ∈ WA := zin 1625 (by decide +kernel) (by decide +kernel)
theorem mv_L_165 : zMv RL 165 RX10 mX10_flows 3 := ⟨⟨wi_1623, wi_110, wi_1626, by decide, by decide +kernel⟩, wi_1624, wi_1625⟩
theorem dL_law__562 : decode cL_law_ 562 = .ok (.istore 6, 2) := by decide +kernel
theorem dL_law__564 : decode cL_law_ 564 = .ok (.goto 1218, 3) := by decide +kernel
theorem dL_law__567 : decode cL_law_ 567 = .ok (.aload_n 1, 1) := by decide +kernel
theorem dL_law__568 : decode cL_law_ 568 = .ok (.aload_n 0, 1) := by decide +kernel
theorem dL_law__569 : decode cL_law_ 569 = .ok (.iload 4, 2) := by decide +kernel
theorem dL_law__571 : decode cL_law_ 571 = .ok (.iconst 1, 1) := by decide +kernel
theorem dL_law__572 : decode cL_law_ 572 = .ok (.iadd, 1) := by decide +kernel
theorem dL_law__573 : decode cL_law_ 573 = .ok (.iaload, 1) := by decide +kernel
theorem dL_law__574 : decode cL_law_ 574 = .ok (.aload_n 0, 1) := by decide +kernel
theorem dL_law__575 : decode cL_law_ 575 = .ok (.iload 4, 2) := by decide +kernel
theorem dL_law__577 : decode cL_law_ 577 = .ok (.iconst 2, 1) := by decide +kernel
theorem dL_law__578 : decode cL_law_ 578 = .ok (.iadd, 1) := by decide +kernel
theorem dL_law__579 : decode cL_law_ 579 = .ok (.iaload, 1) := by decide +kernel
theorem dL_law__580 : decode cL_law_ 580 = .ok (.aload_n 3, 1) := by decide +kernel
theorem dL_law__581 : decode cL_law_ 581 = .ok (.invokestatic 166, 3) := by decide +kernel
theorem wi_885 : Cond.codeWith yL_lend cL_lend 5 (some .int) [(0, 10, 13, 24), (0, 10, 17, 13), (0, 10, 21, 41)] ∈ WA := zin 885 (by decide +kernel) (by decide +kernel)
theorem wi_883 : Cond.methodLink RL 166 yL_lend ∈ WA := zin 883 (by decide +kernel) (by decide +kernel)
theorem wi_884 : Cond.static yL_lend ∈ WA := zin 884 (by decide +kernel) (by decide +kernel)
theorem mw_L_166 : zMw RL 166 mL_lend [(0, 10, 13, 24), (0, 10, 17, 13), (0, 10, 21, 41)] 4 := ⟨wi_883, wi_99, wi_885, by decide, by decide +kernel, wi_884⟩
theorem dL_law__584 : decode cL_law_ 584 = .ok (.istore 5, 2) := by decide +kernel
theorem dL_law__586 : decode cL_law_ 586 = .ok (.aload_n 2, 1) := by decide +kernel
theorem dL_law__587 : decode cL_law_ 587 = .ok (.aload_n 0, 1) := by decide +kernel
theorem dL_law__588 : decode cL_law_ 588 = .ok (.iload 4, 2) := by decide +kernel
theorem dL_law__590 : decode cL_law_ 590 = .ok (.iconst 1, 1) := by decide +kernel
theorem dL_law__591 : decode cL_law_ 591 = .ok (.iadd, 1) := by decide +kernel
theorem dL_law__592 : decode cL_law_ 592 = .ok (.iaload, 1) := by decide +kernel
theorem dL_law__593 : decode cL_law_ 593 = .ok (.aload_n 0, 1) := by decide +kernel
theorem dL_law__594 : decode cL_law_ 594 = .ok (.iload 4, 2) := by decide +kernel
theorem dL_law__596 : decode cL_law_ 596 = .ok (.iconst 2, 1) := by decide +kernel
theorem dL_law__597 : decode cL_law_ 597 = .ok (.iadd, 1) := by decide +kernel
theorem dL_law__598 : decode cL_law_ 598 = .ok (.iaload, 1) := by decide +kernel
theorem dL_law__599 : decode cL_law_ 599 = .ok (.invokevirtual 168, 3) := by decide +kernel
theorem wi_1630 : Cond.methodLink RL 168 yX10_lend ∈ WA := zin 1630 (by decide +kernel) (by decide +kernel)
theorem wi_1633 : Cond.code yX10_lend cX10_lend 4 (some .int) ∈ WA := zin 1633 (by decide +kernel) (by decide +kernel)
theorem wi_1631 : Cond.instanceMethod yX10_lend ∈ WA := zin 1631 (by decide +kernel) (by decide +kernel)
theorem wi_1632 : Cond.selects RX10 yX10_lend yX10_lend ∈ WA := zin 1632 (by decide +kernel) (by decide +kernel)
theorem mv_L_168 : zMv RL 168 RX10 mX10_lend 2 := ⟨⟨wi_1630, wi_110, wi_1633, by decide, by decide +kernel⟩, wi_1631, wi_1632⟩
theorem dL_law__602 : decode cL_law_ 602 = .ok (.istore 6, 2) := by decide +kernel
theorem dL_law__604 : decode cL_law_ 604 = .ok (.goto 1178, 3) := by decide +kernel
theorem Rn.bud {G : Gx} {Ga : List Shp} {Y : Ym} {kx : Kx} {d b b' pc : Nat} {ls : List (Option Value)} {st : List Value} {I : Hi} (h : b ≤ b') (k : Rn G Ga Y kx d b pc ls st I) : Rn G Ga Y kx d b' pc ls st I := by
  intro p e R s m args below meth c H locs cells slots tc ts Z F hk lsA hl
  obtain ⟨F1, F2, F3, F4, F5, F6, F7, F8⟩ := F
  exact k p e R s m args below meth c H locs cells slots tc ts Z ⟨F1, F2, F3, F4, by omega, by omega, F7, F8⟩ hk lsA hl
section LawC
variable {G0 : Gx} {b0 L m i : Nat} {xs : Nat → Int32} {ad : Nat → Nat} {I : Hi} {x5 x6 : Option Value}
theorem lc_feed (h9 : gad G0 998 = b0) (hL : L ≤ 3072) (hi : i + 6 ≤ L) (hI : LI I) (kk : ∀ (J : Hi) (x5 x6 : Option Value), LI J → Rn (gw G0 ad) GAM mL_law_ (kZ (kL b0 L xs) G0 0 ad 108) 60 (8 * m) 1782 [some (.ref 998), some (.ref 0), some (.ref 94), some (.ref 107), some (.int (nI i)), x5, x6] [] J) : Rn (gw G0 ad) GAM mL_law_ (kZ (kL b0 L xs) G0 0 ad 108) 60 (8 * m + 8) 252 [some (.ref 998), some (.ref 0), some (.ref 94), some (.ref 107), some (.int (nI i)), x5, x6] [] I := by
  refine Rn.aload_n dL_law__252 rfl rfl ?_
  refine Rn.aload_n dL_law__253 rfl rfl ?_
  refine Rn.iload dL_law__254 rfl ?_
  refine Rn.iconst (v := (nI 1)) dL_law__256 rfl ?_
  refine Rn.iadd dL_law__257 ?_
  refine Rn.topI (nI (i + 1)) (nI_add _ _) ?_
  refine Rn.sld dL_law__258 h9 (by omega) (by omega) rfl ?_
  refine Rn.aload_n dL_law__259 rfl rfl ?_
  refine Rn.iload dL_law__260 rfl ?_
  refine Rn.iconst (v := (nI 2)) dL_law__262 rfl ?_
  refine Rn.iadd dL_law__263 ?_
  refine Rn.topI (nI (i + 2)) (nI_add _ _) ?_
  refine Rn.sld dL_law__264 h9 (by omega) (by omega) rfl ?_
  refine Rn.aload_n dL_law__265 rfl rfl ?_
  refine Rn.iload dL_law__266 rfl ?_
  refine Rn.iconst (v := (nI 3)) dL_law__268 rfl ?_
  refine Rn.iadd dL_law__269 ?_
  refine Rn.topI (nI (i + 3)) (nI_add _ _) ?_
  refine Rn.sld dL_law__270 h9 (by omega) (by omega) rfl ?_
  refine Rn.aload_n dL_law__271 rfl rfl ?_
  refine Rn.iload dL_law__272 rfl ?_
  refine Rn.iconst (v := (nI 4)) dL_law__274 rfl ?_
  refine Rn.iadd dL_law__275 ?_
  refine Rn.topI (nI (i + 4)) (nI_add _ _) ?_
  refine Rn.sld dL_law__276 h9 (by omega) (by omega) rfl ?_
  refine Rn.aload_n dL_law__277 rfl rfl ?_
  refine Rn.iload dL_law__278 rfl ?_
  refine Rn.iconst (v := (nI 5)) dL_law__280 rfl ?_
  refine Rn.iadd dL_law__281 ?_
  refine Rn.topI (nI (i + 5)) (nI_add _ _) ?_
  refine Rn.sld dL_law__282 h9 (by omega) (by omega) rfl ?_
  refine Rn.callV (As := [_, _, _, _, _]) dL_law__283 mv_L_130 (by first | rfl | exact gC0 (by assumption) | exact gL0 (by assumption)) rfl rfl rfl (Nat.le_of_ble_eq_true rfl) (xd_feed _ _ _ _ _ _ _ _ hI.1 hI.2.1.1) (fun _ _ h => h) (fun v J1 h => ?_)
  obtain ⟨r1, rfl, h1⟩ := h
  refine Rn.pop dL_law__286 rfl ?_
  refine Rn.aload_n dL_law__287 rfl rfl ?_
  refine Rn.aload_n dL_law__288 rfl rfl ?_
  refine Rn.iload dL_law__289 rfl ?_
  refine Rn.iconst (v := (nI 1)) dL_law__291 rfl ?_
  refine Rn.iadd dL_law__292 ?_
  refine Rn.topI (nI (i + 1)) (nI_add _ _) ?_
  refine Rn.sld dL_law__293 h9 (by omega) (by omega) rfl ?_
  refine Rn.aload_n dL_law__294 rfl rfl ?_
  refine Rn.iload dL_law__295 rfl ?_
  refine Rn.iconst (v := (nI 2)) dL_law__297 rfl ?_
  refine Rn.iadd dL_law__298 ?_
  refine Rn.topI (nI (i + 2)) (nI_add _ _) ?_
  refine Rn.sld dL_law__299 h9 (by omega) (by omega) rfl ?_
  refine Rn.aload_n dL_law__300 rfl rfl ?_
  refine Rn.iload dL_law__301 rfl ?_
  refine Rn.iconst (v := (nI 3)) dL_law__303 rfl ?_
  refine Rn.iadd dL_law__304 ?_
  refine Rn.topI (nI (i + 3)) (nI_add _ _) ?_
  refine Rn.sld dL_law__305 h9 (by omega) (by omega) rfl ?_
  refine Rn.aload_n dL_law__306 rfl rfl ?_
  refine Rn.iload dL_law__307 rfl ?_
  refine Rn.iconst (v := (nI 4)) dL_law__309 rfl ?_
  refine Rn.iadd dL_law__310 ?_
  refine Rn.topI (nI (i + 4)) (nI_add _ _) ?_
  refine Rn.sld dL_law__311 h9 (by omega) (by omega) rfl ?_
  refine Rn.aload_n dL_law__312 rfl rfl ?_
  refine Rn.iload dL_law__313 rfl ?_
  refine Rn.iconst (v := (nI 5)) dL_law__315 rfl ?_
  refine Rn.iadd dL_law__316 ?_
  refine Rn.topI (nI (i + 5)) (nI_add _ _) ?_
  refine Rn.sld dL_law__317 h9 (by omega) (by omega) rfl ?_
  refine Rn.callV (As := [_, _, _, _, _]) dL_law__318 mv_L_134 (by first | rfl | exact gC0 (by assumption) | exact gL0 (by assumption)) rfl rfl rfl (Nat.le_of_ble_eq_true rfl) (mo_feed _ _ _ _ _ _ _ _ h1.1 h1.2.1) (fun _ _ h => h) (fun v J2 h => ?_)
  obtain ⟨r2, rfl, h2⟩ := h
  obtain ⟨heq, hL2⟩ := feed_both hI h1 h2
  refine Rn.pop dL_law__321 rfl ?_
  refine Rn.goto 1782 dL_law__322 (by decide) ?_
  exact Rn.bud (by omega) (kk _ _ _ (hL2))
theorem lc_end (h9 : gad G0 998 = b0) (hL : L ≤ 3072) (hi : i + 6 ≤ L) (hI : LI I) (kk : ∀ (J : Hi) (x5 x6 : Option Value), LI J → Rn (gw G0 ad) GAM mL_law_ (kZ (kL b0 L xs) G0 0 ad 108) 60 (8 * m) 1782 [some (.ref 998), some (.ref 0), some (.ref 94), some (.ref 107), some (.int (nI i)), x5, x6] [] J) : Rn (gw G0 ad) GAM mL_law_ (kZ (kL b0 L xs) G0 0 ad 108) 60 (8 * m + 8) 325 [some (.ref 998), some (.ref 0), some (.ref 94), some (.ref 107), some (.int (nI i)), x5, x6] [] I := by
  refine Rn.aload_n dL_law__325 rfl rfl ?_
  refine Rn.aload_n dL_law__326 rfl rfl ?_
  refine Rn.iload dL_law__327 rfl ?_
  refine Rn.iconst (v := (nI 1)) dL_law__329 rfl ?_
  refine Rn.iadd dL_law__330 ?_
  refine Rn.topI (nI (i + 1)) (nI_add _ _) ?_
  refine Rn.sld dL_law__331 h9 (by omega) (by omega) rfl ?_
  refine Rn.callV (As := [_]) dL_law__332 mv_L_135 (by first | rfl | exact gC0 (by assumption) | exact gL0 (by assumption)) rfl rfl rfl (Nat.le_of_ble_eq_true rfl) (xd_end _ _ _ _ hI.1 hI.2.1.1) (fun _ _ h => h) (fun v J1 h => ?_)
  obtain ⟨r1, rfl, h1⟩ := h
  refine Rn.pop dL_law__335 rfl ?_
  refine Rn.aload_n dL_law__336 rfl rfl ?_
  refine Rn.aload_n dL_law__337 rfl rfl ?_
  refine Rn.iload dL_law__338 rfl ?_
  refine Rn.iconst (v := (nI 1)) dL_law__340 rfl ?_
  refine Rn.iadd dL_law__341 ?_
  refine Rn.topI (nI (i + 1)) (nI_add _ _) ?_
  refine Rn.sld dL_law__342 h9 (by omega) (by omega) rfl ?_
  refine Rn.callV (As := [_]) dL_law__343 mv_L_138 (by first | rfl | exact gC0 (by assumption) | exact gL0 (by assumption)) rfl rfl rfl (Nat.le_of_ble_eq_true rfl) (mo_end _ _ _ _ h1.1 h1.2.1) (fun _ _ h => h) (fun v J2 h => ?_)
  obtain ⟨r2, rfl, h2⟩ := h
  obtain ⟨heq, hL2⟩ := end_both hI h1 h2
  refine Rn.pop dL_law__346 rfl ?_
  refine Rn.goto 1782 dL_law__347 (by decide) ?_
  exact Rn.bud (by omega) (kk _ _ _ (hL2))
theorem lc_coast (h9 : gad G0 998 = b0) (hL : L ≤ 3072) (hi : i + 6 ≤ L) (hI : LI I) (kk : ∀ (J : Hi) (x5 x6 : Option Value), LI J → Rn (gw G0 ad) GAM mL_law_ (kZ (kL b0 L xs) G0 0 ad 108) 60 (8 * m) 1782 [some (.ref 998), some (.ref 0), some (.ref 94), some (.ref 107), some (.int (nI i)), x5, x6] [] J) : Rn (gw G0 ad) GAM mL_law_ (kZ (kL b0 L xs) G0 0 ad 108) 60 (8 * m + 8) 350 [some (.ref 998), some (.ref 0), some (.ref 94), some (.ref 107), some (.int (nI i)), x5, x6] [] I := by
  refine Rn.aload_n dL_law__350 rfl rfl ?_
  refine Rn.aload_n dL_law__351 rfl rfl ?_
  refine Rn.callW (b := 8 * m + 7) (mc := 1) (As := [_, _]) dL_law__352 mw_L_139 rfl rfl (Nat.le_of_ble_eq_true rfl) (wr_coast _ _ _ hI) (fun _ _ h => h) (fun v J1 h => ?_)
  obtain ⟨r1, rfl, h1⟩ := h
  refine Rn.istore dL_law__355 (by decide) ?_
  refine Rn.aload_n dL_law__357 rfl rfl ?_
  refine Rn.callV (As := []) dL_law__358 mv_L_144 (by first | rfl | exact gC0 (by assumption) | exact gL0 (by assumption)) rfl rfl rfl (Nat.le_of_ble_eq_true rfl) (mo_coast _ _ h1) (fun _ _ h => h) (fun v J2 h => ?_)
  obtain ⟨r2, rfl, hL2, hth, hou⟩ := h
  refine Rn.istore dL_law__361 (by decide) ?_
  refine Rn.goto 1782 dL_law__363 (by decide) ?_
  exact Rn.bud (by omega) (kk _ _ _ (hL2))
theorem lc_law (h9 : gad G0 998 = b0) (hL : L ≤ 3072) (hi : i + 6 ≤ L) (hI : LI I) (kk : ∀ (J : Hi) (x5 x6 : Option Value), LI J → Rn (gw G0 ad) GAM mL_law_ (kZ (kL b0 L xs) G0 0 ad 108) 60 (8 * m) 1782 [some (.ref 998), some (.ref 0), some (.ref 94), some (.ref 107), some (.int (nI i)), x5, x6] [] J) : Rn (gw G0 ad) GAM mL_law_ (kZ (kL b0 L xs) G0 0 ad 108) 60 (8 * m + 8) 366 [some (.ref 998), some (.ref 0), some (.ref 94), some (.ref 107), some (.int (nI i)), x5, x6] [] I := by
  refine Rn.aload_n dL_law__366 rfl rfl ?_
  refine Rn.aload_n dL_law__367 rfl rfl ?_
  refine Rn.callW (b := 8 * m + 7) (mc := 1) (As := [_, _]) dL_law__368 mw_L_145 rfl rfl (Nat.le_of_ble_eq_true rfl) (wr_law _ _ _ hI) (fun _ _ h => h) (fun v J1 h => ?_)
  obtain ⟨r1, rfl, h1⟩ := h
  refine Rn.istore dL_law__371 (by decide) ?_
  refine Rn.aload_n dL_law__373 rfl rfl ?_
  refine Rn.callV (As := []) dL_law__374 mv_L_147 (by first | rfl | exact gC0 (by assumption) | exact gL0 (by assumption)) rfl rfl rfl (Nat.le_of_ble_eq_true rfl) (mo_law _ _ h1) (fun _ _ h => h) (fun v J2 h => ?_)
  obtain ⟨r2, rfl, hL2⟩ := h
  refine Rn.istore dL_law__377 (by decide) ?_
  refine Rn.goto 1782 dL_law__379 (by decide) ?_
  exact Rn.bud (by omega) (kk _ _ _ (hL2))
theorem lc_fault (h9 : gad G0 998 = b0) (hL : L ≤ 3072) (hi : i + 6 ≤ L) (hI : LI I) (kk : ∀ (J : Hi) (x5 x6 : Option Value), LI J → Rn (gw G0 ad) GAM mL_law_ (kZ (kL b0 L xs) G0 0 ad 108) 60 (8 * m) 1782 [some (.ref 998), some (.ref 0), some (.ref 94), some (.ref 107), some (.int (nI i)), x5, x6] [] J) : Rn (gw G0 ad) GAM mL_law_ (kZ (kL b0 L xs) G0 0 ad 108) 60 (8 * m + 8) 382 [some (.ref 998), some (.ref 0), some (.ref 94), some (.ref 107), some (.int (nI i)), x5, x6] [] I := by
  refine Rn.aload_n dL_law__382 rfl rfl ?_
  refine Rn.callV (As := []) dL_law__383 mv_L_148 (by first | rfl | exact gC0 (by assumption) | exact gL0 (by assumption)) rfl rfl rfl (Nat.le_of_ble_eq_true rfl) (xd_fault _ _ _ hI.1 hI.2.1) (fun _ _ h => h) (fun v J1 h => ?_)
  obtain ⟨rfl, hQ1⟩ := h
  refine Rn.pop dL_law__386 rfl ?_
  refine Rn.aload_n dL_law__387 rfl rfl ?_
  refine Rn.callV (As := []) dL_law__388 mv_L_151 (by first | rfl | exact gC0 (by assumption) | exact gL0 (by assumption)) rfl rfl rfl (Nat.le_of_ble_eq_true rfl) (mo_fault _ _ _ hQ1.1 hQ1.2.1) (fun _ _ h => h) (fun v J2 h => ?_)
  obtain ⟨rfl, hQ2⟩ := h
  refine Rn.pop dL_law__391 rfl ?_
  refine Rn.goto 1782 dL_law__392 (by decide) ?_
  exact Rn.bud (by omega) (kk _ _ _ (hI.of (hQ1.tr hQ2)))
theorem lc_woman (h9 : gad G0 998 = b0) (hL : L ≤ 3072) (hi : i + 6 ≤ L) (hI : LI I) (kk : ∀ (J : Hi) (x5 x6 : Option Value), LI J → Rn (gw G0 ad) GAM mL_law_ (kZ (kL b0 L xs) G0 0 ad 108) 60 (8 * m) 1782 [some (.ref 998), some (.ref 0), some (.ref 94), some (.ref 107), some (.int (nI i)), x5, x6] [] J) : Rn (gw G0 ad) GAM mL_law_ (kZ (kL b0 L xs) G0 0 ad 108) 60 (8 * m + 8) 395 [some (.ref 998), some (.ref 0), some (.ref 94), some (.ref 107), some (.int (nI i)), x5, x6] [] I := by
  refine Rn.aload_n dL_law__395 rfl rfl ?_
  refine Rn.aload_n dL_law__396 rfl rfl ?_
  refine Rn.iload dL_law__397 rfl ?_
  refine Rn.iconst (v := (nI 1)) dL_law__399 rfl ?_
  refine Rn.iadd dL_law__400 ?_
  refine Rn.topI (nI (i + 1)) (nI_add _ _) ?_
  refine Rn.sld dL_law__401 h9 (by omega) (by omega) rfl ?_
  refine Rn.aload_n dL_law__402 rfl rfl ?_
  refine Rn.iload dL_law__403 rfl ?_
  refine Rn.iconst (v := (nI 2)) dL_law__405 rfl ?_
  refine Rn.iadd dL_law__406 ?_
  refine Rn.topI (nI (i + 2)) (nI_add _ _) ?_
  refine Rn.sld dL_law__407 h9 (by omega) (by omega) rfl ?_
  refine Rn.aload_n dL_law__408 rfl rfl ?_
  refine Rn.callW (b := 8 * m + 6) (mc := 2) (As := [_, _, _, _]) dL_law__409 mw_L_152 rfl rfl (Nat.le_of_ble_eq_true rfl) (wr_woman _ _ _ _ _ hI.1 hI.2.1) (fun _ _ h => h) (fun v J1 h => ?_)
  obtain ⟨⟨r1, rfl⟩, hQ1⟩ := h
  refine Rn.istore dL_law__412 (by decide) ?_
  refine Rn.aload_n dL_law__414 rfl rfl ?_
  refine Rn.aload_n dL_law__415 rfl rfl ?_
  refine Rn.iload dL_law__416 rfl ?_
  refine Rn.iconst (v := (nI 1)) dL_law__418 rfl ?_
  refine Rn.iadd dL_law__419 ?_
  refine Rn.topI (nI (i + 1)) (nI_add _ _) ?_
  refine Rn.sld dL_law__420 h9 (by omega) (by omega) rfl ?_
  refine Rn.aload_n dL_law__421 rfl rfl ?_
  refine Rn.iload dL_law__422 rfl ?_
  refine Rn.iconst (v := (nI 2)) dL_law__424 rfl ?_
  refine Rn.iadd dL_law__425 ?_
  refine Rn.topI (nI (i + 2)) (nI_add _ _) ?_
  refine Rn.sld dL_law__426 h9 (by omega) (by omega) rfl ?_
  refine Rn.callV (As := [_, _]) dL_law__427 mv_L_155 (by first | rfl | exact gC0 (by assumption) | exact gL0 (by assumption)) rfl rfl rfl (Nat.le_of_ble_eq_true rfl) (mo_woman _ _ _ _ _ hQ1.1 hQ1.2.1) (fun _ _ h => h) (fun v J2 h => ?_)
  obtain ⟨⟨r2, rfl⟩, hQ2⟩ := h
  refine Rn.istore dL_law__430 (by decide) ?_
  refine Rn.goto 1782 dL_law__432 (by decide) ?_
  exact Rn.bud (by omega) (kk _ _ _ (hI.of (hQ1.tr hQ2)))
theorem lc_thing (h9 : gad G0 998 = b0) (hL : L ≤ 3072) (hi : i + 6 ≤ L) (hI : LI I) (kk : ∀ (J : Hi) (x5 x6 : Option Value), LI J → Rn (gw G0 ad) GAM mL_law_ (kZ (kL b0 L xs) G0 0 ad 108) 60 (8 * m) 1782 [some (.ref 998), some (.ref 0), some (.ref 94), some (.ref 107), some (.int (nI i)), x5, x6] [] J) : Rn (gw G0 ad) GAM mL_law_ (kZ (kL b0 L xs) G0 0 ad 108) 60 (8 * m + 8) 435 [some (.ref 998), some (.ref 0), some (.ref 94), some (.ref 107), some (.int (nI i)), x5, x6] [] I := by
  refine Rn.aload_n dL_law__435 rfl rfl ?_
  refine Rn.aload_n dL_law__436 rfl rfl ?_
  refine Rn.iload dL_law__437 rfl ?_
  refine Rn.iconst (v := (nI 1)) dL_law__439 rfl ?_
  refine Rn.iadd dL_law__440 ?_
  refine Rn.topI (nI (i + 1)) (nI_add _ _) ?_
  refine Rn.sld dL_law__441 h9 (by omega) (by omega) rfl ?_
  refine Rn.aload_n dL_law__442 rfl rfl ?_
  refine Rn.iload dL_law__443 rfl ?_
  refine Rn.iconst (v := (nI 2)) dL_law__445 rfl ?_
  refine Rn.iadd dL_law__446 ?_
  refine Rn.topI (nI (i + 2)) (nI_add _ _) ?_
  refine Rn.sld dL_law__447 h9 (by omega) (by omega) rfl ?_
  refine Rn.aload_n dL_law__448 rfl rfl ?_
  refine Rn.callW (b := 8 * m + 6) (mc := 2) (As := [_, _, _, _]) dL_law__449 mw_L_156 rfl rfl (Nat.le_of_ble_eq_true rfl) (wr_thing _ _ _ _ _ hI.1 hI.2.1) (fun _ _ h => h) (fun v J1 h => ?_)
  obtain ⟨⟨r1, rfl⟩, hQ1⟩ := h
  refine Rn.istore dL_law__452 (by decide) ?_
  refine Rn.aload_n dL_law__454 rfl rfl ?_
  refine Rn.aload_n dL_law__455 rfl rfl ?_
  refine Rn.iload dL_law__456 rfl ?_
  refine Rn.iconst (v := (nI 1)) dL_law__458 rfl ?_
  refine Rn.iadd dL_law__459 ?_
  refine Rn.topI (nI (i + 1)) (nI_add _ _) ?_
  refine Rn.sld dL_law__460 h9 (by omega) (by omega) rfl ?_
  refine Rn.aload_n dL_law__461 rfl rfl ?_
  refine Rn.iload dL_law__462 rfl ?_
  refine Rn.iconst (v := (nI 2)) dL_law__464 rfl ?_
  refine Rn.iadd dL_law__465 ?_
  refine Rn.topI (nI (i + 2)) (nI_add _ _) ?_
  refine Rn.sld dL_law__466 h9 (by omega) (by omega) rfl ?_
  refine Rn.callV (As := [_, _]) dL_law__467 mv_L_158 (by first | rfl | exact gC0 (by assumption) | exact gL0 (by assumption)) rfl rfl rfl (Nat.le_of_ble_eq_true rfl) (mo_thing _ _ _ _ _ hQ1.1 hQ1.2.1) (fun _ _ h => h) (fun v J2 h => ?_)
  obtain ⟨⟨r2, rfl⟩, hQ2⟩ := h
  refine Rn.istore dL_law__470 (by decide) ?_
  refine Rn.goto 1782 dL_law__472 (by decide) ?_
  exact Rn.bud (by omega) (kk _ _ _ (hI.of (hQ1.tr hQ2)))
theorem lc_gain (h9 : gad G0 998 = b0) (hL : L ≤ 3072) (hi : i + 6 ≤ L) (hI : LI I) (kk : ∀ (J : Hi) (x5 x6 : Option Value), LI J → Rn (gw G0 ad) GAM mL_law_ (kZ (kL b0 L xs) G0 0 ad 108) 60 (8 * m) 1782 [some (.ref 998), some (.ref 0), some (.ref 94), some (.ref 107), some (.int (nI i)), x5, x6] [] J) : Rn (gw G0 ad) GAM mL_law_ (kZ (kL b0 L xs) G0 0 ad 108) 60 (8 * m + 8) 475 [some (.ref 998), some (.ref 0), some (.ref 94), some (.ref 107), some (.int (nI i)), x5, x6] [] I := by
  refine Rn.aload_n dL_law__475 rfl rfl ?_
  refine Rn.aload_n dL_law__476 rfl rfl ?_
  refine Rn.iload dL_law__477 rfl ?_
  refine Rn.iconst (v := (nI 1)) dL_law__479 rfl ?_
  refine Rn.iadd dL_law__480 ?_
  refine Rn.topI (nI (i + 1)) (nI_add _ _) ?_
  refine Rn.sld dL_law__481 h9 (by omega) (by omega) rfl ?_
  refine Rn.aload_n dL_law__482 rfl rfl ?_
  refine Rn.iload dL_law__483 rfl ?_
  refine Rn.iconst (v := (nI 2)) dL_law__485 rfl ?_
  refine Rn.iadd dL_law__486 ?_
  refine Rn.topI (nI (i + 2)) (nI_add _ _) ?_
  refine Rn.sld dL_law__487 h9 (by omega) (by omega) rfl ?_
  refine Rn.aload_n dL_law__488 rfl rfl ?_
  refine Rn.callW (b := 8 * m + 6) (mc := 2) (As := [_, _, _, _]) dL_law__489 mw_L_159 rfl rfl (Nat.le_of_ble_eq_true rfl) (wr_gain _ _ _ _ _ hI.1 hI.2.1) (fun _ _ h => h) (fun v J1 h => ?_)
  obtain ⟨⟨r1, rfl⟩, hQ1⟩ := h
  refine Rn.istore dL_law__492 (by decide) ?_
  refine Rn.aload_n dL_law__494 rfl rfl ?_
  refine Rn.aload_n dL_law__495 rfl rfl ?_
  refine Rn.iload dL_law__496 rfl ?_
  refine Rn.iconst (v := (nI 1)) dL_law__498 rfl ?_
  refine Rn.iadd dL_law__499 ?_
  refine Rn.topI (nI (i + 1)) (nI_add _ _) ?_
  refine Rn.sld dL_law__500 h9 (by omega) (by omega) rfl ?_
  refine Rn.aload_n dL_law__501 rfl rfl ?_
  refine Rn.iload dL_law__502 rfl ?_
  refine Rn.iconst (v := (nI 2)) dL_law__504 rfl ?_
  refine Rn.iadd dL_law__505 ?_
  refine Rn.topI (nI (i + 2)) (nI_add _ _) ?_
  refine Rn.sld dL_law__506 h9 (by omega) (by omega) rfl ?_
  refine Rn.callV (As := [_, _]) dL_law__507 mv_L_161 (by first | rfl | exact gC0 (by assumption) | exact gL0 (by assumption)) rfl rfl rfl (Nat.le_of_ble_eq_true rfl) (mo_gain _ _ _ _ _ hQ1.1 hQ1.2.1) (fun _ _ h => h) (fun v J2 h => ?_)
  obtain ⟨⟨r2, rfl⟩, hQ2⟩ := h
  refine Rn.istore dL_law__510 (by decide) ?_
  refine Rn.goto 1782 dL_law__512 (by decide) ?_
  exact Rn.bud (by omega) (kk _ _ _ (hI.of (hQ1.tr hQ2)))
theorem lc_flows (h9 : gad G0 998 = b0) (hL : L ≤ 3072) (hi : i + 6 ≤ L) (hI : LI I) (kk : ∀ (J : Hi) (x5 x6 : Option Value), LI J → Rn (gw G0 ad) GAM mL_law_ (kZ (kL b0 L xs) G0 0 ad 108) 60 (8 * m) 1782 [some (.ref 998), some (.ref 0), some (.ref 94), some (.ref 107), some (.int (nI i)), x5, x6] [] J) : Rn (gw G0 ad) GAM mL_law_ (kZ (kL b0 L xs) G0 0 ad 108) 60 (8 * m + 8) 515 [some (.ref 998), some (.ref 0), some (.ref 94), some (.ref 107), some (.int (nI i)), x5, x6] [] I := by
  refine Rn.aload_n dL_law__515 rfl rfl ?_
  refine Rn.aload_n dL_law__516 rfl rfl ?_
  refine Rn.iload dL_law__517 rfl ?_
  refine Rn.iconst (v := (nI 1)) dL_law__519 rfl ?_
  refine Rn.iadd dL_law__520 ?_
  refine Rn.topI (nI (i + 1)) (nI_add _ _) ?_
  refine Rn.sld dL_law__521 h9 (by omega) (by omega) rfl ?_
  refine Rn.aload_n dL_law__522 rfl rfl ?_
  refine Rn.iload dL_law__523 rfl ?_
  refine Rn.iconst (v := (nI 2)) dL_law__525 rfl ?_
  refine Rn.iadd dL_law__526 ?_
  refine Rn.topI (nI (i + 2)) (nI_add _ _) ?_
  refine Rn.sld dL_law__527 h9 (by omega) (by omega) rfl ?_
  refine Rn.aload_n dL_law__528 rfl rfl ?_
  refine Rn.iload dL_law__529 rfl ?_
  refine Rn.iconst (v := (nI 3)) dL_law__531 rfl ?_
  refine Rn.iadd dL_law__532 ?_
  refine Rn.topI (nI (i + 3)) (nI_add _ _) ?_
  refine Rn.sld dL_law__533 h9 (by omega) (by omega) rfl ?_
  refine Rn.aload_n dL_law__534 rfl rfl ?_
  refine Rn.callW (b := 8 * m + 5) (mc := 3) (As := [_, _, _, _, _]) dL_law__535 mw_L_162 rfl rfl (Nat.le_of_ble_eq_true rfl) (wr_flows _ _ _ _ _ _ hI.1 hI.2.1) (fun _ _ h => h) (fun v J1 h => ?_)
  obtain ⟨⟨r1, rfl⟩, hQ1⟩ := h
  refine Rn.istore dL_law__538 (by decide) ?_
  refine Rn.aload_n dL_law__540 rfl rfl ?_
  refine Rn.aload_n dL_law__541 rfl rfl ?_
  refine Rn.iload dL_law__542 rfl ?_
  refine Rn.iconst (v := (nI 1)) dL_law__544 rfl ?_
  refine Rn.iadd dL_law__545 ?_
  refine Rn.topI (nI (i + 1)) (nI_add _ _) ?_
  refine Rn.sld dL_law__546 h9 (by omega) (by omega) rfl ?_
  refine Rn.aload_n dL_law__547 rfl rfl ?_
  refine Rn.iload dL_law__548 rfl ?_
  refine Rn.iconst (v := (nI 2)) dL_law__550 rfl ?_
  refine Rn.iadd dL_law__551 ?_
  refine Rn.topI (nI (i + 2)) (nI_add _ _) ?_
  refine Rn.sld dL_law__552 h9 (by omega) (by omega) rfl ?_
  refine Rn.aload_n dL_law__553 rfl rfl ?_
  refine Rn.iload dL_law__554 rfl ?_
  refine Rn.iconst (v := (nI 3)) dL_law__556 rfl ?_
  refine Rn.iadd dL_law__557 ?_
  refine Rn.topI (nI (i + 3)) (nI_add _ _) ?_
  refine Rn.sld dL_law__558 h9 (by omega) (by omega) rfl ?_
  refine Rn.callV (As := [_, _, _]) dL_law__559 mv_L_165 (by first | rfl | exact gC0 (by assumption) | exact gL0 (by assumption)) rfl rfl rfl (Nat.le_of_ble_eq_true rfl) (mo_flows _ _ _ _ _ _ hQ1.1 hQ1.2.1) (fun _ _ h => h) (fun v J2 h => ?_)
  obtain ⟨⟨r2, rfl⟩, hQ2⟩ := h
  refine Rn.istore dL_law__562 (by decide) ?_
  refine Rn.goto 1782 dL_law__564 (by decide) ?_
  exact Rn.bud (by omega) (kk _ _ _ (hI.of (hQ1.tr hQ2)))
theorem lc_lend (h9 : gad G0 998 = b0) (hL : L ≤ 3072) (hi : i + 6 ≤ L) (hI : LI I) (kk : ∀ (J : Hi) (x5 x6 : Option Value), LI J → Rn (gw G0 ad) GAM mL_law_ (kZ (kL b0 L xs) G0 0 ad 108) 60 (8 * m) 1782 [some (.ref 998), some (.ref 0), some (.ref 94), some (.ref 107), some (.int (nI i)), x5, x6] [] J) : Rn (gw G0 ad) GAM mL_law_ (kZ (kL b0 L xs) G0 0 ad 108) 60 (8 * m + 8) 567 [some (.ref 998), some (.ref 0), some (.ref 94), some (.ref 107), some (.int (nI i)), x5, x6] [] I := by
  refine Rn.aload_n dL_law__567 rfl rfl ?_
  refine Rn.aload_n dL_law__568 rfl rfl ?_
  refine Rn.iload dL_law__569 rfl ?_
  refine Rn.iconst (v := (nI 1)) dL_law__571 rfl ?_
  refine Rn.iadd dL_law__572 ?_
  refine Rn.topI (nI (i + 1)) (nI_add _ _) ?_
  refine Rn.sld dL_law__573 h9 (by omega) (by omega) rfl ?_
  refine Rn.aload_n dL_law__574 rfl rfl ?_
  refine Rn.iload dL_law__575 rfl ?_
  refine Rn.iconst (v := (nI 2)) dL_law__577 rfl ?_
  refine Rn.iadd dL_law__578 ?_
  refine Rn.topI (nI (i + 2)) (nI_add _ _) ?_
  refine Rn.sld dL_law__579 h9 (by omega) (by omega) rfl ?_
  refine Rn.aload_n dL_law__580 rfl rfl ?_
  refine Rn.callW (b := 8 * m + 5) (mc := 3) (As := [_, _, _, _]) dL_law__581 mw_L_166 rfl rfl (Nat.le_of_ble_eq_true rfl) (wr_lend _ _ _ _ _ hI.1 hI.2.1) (fun _ _ h => h) (fun v J1 h => ?_)
  obtain ⟨⟨r1, rfl⟩, hQ1⟩ := h
  refine Rn.istore dL_law__584 (by decide) ?_
  refine Rn.aload_n dL_law__586 rfl rfl ?_
  refine Rn.aload_n dL_law__587 rfl rfl ?_
  refine Rn.iload dL_law__588 rfl ?_
  refine Rn.iconst (v := (nI 1)) dL_law__590 rfl ?_
  refine Rn.iadd dL_law__591 ?_
  refine Rn.topI (nI (i + 1)) (nI_add _ _) ?_
  refine Rn.sld dL_law__592 h9 (by omega) (by omega) rfl ?_
  refine Rn.aload_n dL_law__593 rfl rfl ?_
  refine Rn.iload dL_law__594 rfl ?_
  refine Rn.iconst (v := (nI 2)) dL_law__596 rfl ?_
  refine Rn.iadd dL_law__597 ?_
  refine Rn.topI (nI (i + 2)) (nI_add _ _) ?_
  refine Rn.sld dL_law__598 h9 (by omega) (by omega) rfl ?_
  refine Rn.callV (As := [_, _]) dL_law__599 mv_L_168 (by first | rfl | exact gC0 (by assumption) | exact gL0 (by assumption)) rfl rfl rfl (Nat.le_of_ble_eq_true rfl) (mo_lend _ _ _ _ _ hQ1.1 hQ1.2.1) (fun _ _ h => h) (fun v J2 h => ?_)
  obtain ⟨⟨r2, rfl⟩, hQ2⟩ := h
  refine Rn.istore dL_law__602 (by decide) ?_
  refine Rn.goto 1782 dL_law__604 (by decide) ?_
  exact Rn.bud (by omega) (kk _ _ _ (hI.of (hQ1.tr hQ2)))
end LawC
