theorem dL_law__252 : decode cL_law_ 252 = .ok (.aload_n 1, 1) := by decide +kernel
theorem dL_law__253 : decode cL_law_ 253 = .ok (.aload_n 0, 1) := by decide +kernel
theorem dL_law__254 : decode cL_law_ 254 = .ok (.iload 4, 2) := by decide +kernel
theorem dL_law__256 : decode cL_law_ 256 = .ok (.iconst 1, 1) := by decide +kernel
theorem dL_law__257 : decode cL_law_ 257 = .ok (.iadd, 1) := by decide +kernel
theorem dL_law__258 : decode cL_law_ 258 = .ok (.iaload, 1) := by decide +kernel
theorem dL_law__259 : decode cL_law_ 259 = .ok (.aload_n 0, 1) := by decide +kernel
theorem dL_law__260 : decode cL_law_ 260 = .ok (.iload 4, 2) := by decide +kernel
theorem dL_law__262 : decode cL_law_ 262 = .ok (.iconst 2, 1) := by decide +kernel
theorem dL_law__263 : decode cL_law_ 263 = .ok (.iadd, 1) := by decide +kernel
theorem dL_law__264 : decode cL_law_ 264 = .ok (.iaload, 1) := by decide +kernel
theorem dL_law__265 : decode cL_law_ 265 = .ok (.aload_n 0, 1) := by decide +kernel
theorem dL_law__266 : decode cL_law_ 266 = .ok (.iload 4, 2) := by decide +kernel
theorem dL_law__268 : decode cL_law_ 268 = .ok (.iconst 3, 1) := by decide +kernel
theorem dL_law__269 : decode cL_law_ 269 = .ok (.iadd, 1) := by decide +kernel
theorem dL_law__270 : decode cL_law_ 270 = .ok (.iaload, 1) := by decide +kernel
theorem dL_law__271 : decode cL_law_ 271 = .ok (.aload_n 0, 1) := by decide +kernel
theorem dL_law__272 : decode cL_law_ 272 = .ok (.iload 4, 2) := by decide +kernel
theorem dL_law__274 : decode cL_law_ 274 = .ok (.iconst 4, 1) := by decide +kernel
theorem dL_law__275 : decode cL_law_ 275 = .ok (.iadd, 1) := by decide +kernel
theorem dL_law__276 : decode cL_law_ 276 = .ok (.iaload, 1) := by decide +kernel
theorem dL_law__277 : decode cL_law_ 277 = .ok (.aload_n 0, 1) := by decide +kernel
theorem dL_law__278 : decode cL_law_ 278 = .ok (.iload 4, 2) := by decide +kernel
theorem dL_law__280 : decode cL_law_ 280 = .ok (.iconst 5, 1) := by decide +kernel
theorem dL_law__281 : decode cL_law_ 281 = .ok (.iadd, 1) := by decide +kernel
theorem dL_law__282 : decode cL_law_ 282 = .ok (.iaload, 1) := by decide +kernel
theorem dL_law__283 : decode cL_law_ 283 = .ok (.invokevirtual 130, 3) := by decide +kernel
theorem wi_401 : Cond.methodLink RL 130 yX9_feed ∈ WA := zin 401 (by decide +kernel) (by decide +kernel)
theorem wi_404 : Cond.code yX9_feed cX9_feed 6 (some .int) ∈ WA := zin 404 (by decide +kernel) (by decide +kernel)
theorem wi_402 : Cond.instanceMethod yX9_feed ∈ WA := zin 402 (by decide +kernel) (by decide +kernel)
theorem wi_403 : Cond.selects RX9 yX9_feed yX9_feed ∈ WA := zin 403 (by decide +kernel) (by decide +kernel)
theorem mv_L_130 : zMv RL 130 RX9 mX9_feed 5 := ⟨⟨wi_401, wi_100, wi_404, by decide, by decide +kernel⟩, wi_402, wi_403⟩
theorem dL_law__286 : decode cL_law_ 286 = .ok (.aload_n 2, 1) := by decide +kernel
theorem dL_law__287 : decode cL_law_ 287 = .ok (.aload_n 0, 1) := by decide +kernel
theorem dL_law__288 : decode cL_law_ 288 = .ok (.iload 4, 2) := by decide +kernel
theorem dL_law__290 : decode cL_law_ 290 = .ok (.iconst 1, 1) := by decide +kernel
theorem dL_law__291 : decode cL_law_ 291 = .ok (.iadd, 1) := by decide +kernel
theorem dL_law__292 : decode cL_law_ 292 = .ok (.iaload, 1) := by decide +kernel
theorem dL_law__293 : decode cL_law_ 293 = .ok (.aload_n 0, 1) := by decide +kernel
theorem dL_law__294 : decode cL_law_ 294 = .ok (.iload 4, 2) := by decide +kernel
theorem dL_law__296 : decode cL_law_ 296 = .ok (.iconst 2, 1) := by decide +kernel
theorem dL_law__297 : decode cL_law_ 297 = .ok (.iadd, 1) := by decide +kernel
theorem dL_law__298 : decode cL_law_ 298 = .ok (.iaload, 1) := by decide +kernel
theorem dL_law__299 : decode cL_law_ 299 = .ok (.aload_n 0, 1) := by decide +kernel
theorem dL_law__300 : decode cL_law_ 300 = .ok (.iload 4, 2) := by decide +kernel
theorem dL_law__302 : decode cL_law_ 302 = .ok (.iconst 3, 1) := by decide +kernel
theorem dL_law__303 : decode cL_law_ 303 = .ok (.iadd, 1) := by decide +kernel
theorem dL_law__304 : decode cL_law_ 304 = .ok (.iaload, 1) := by decide +kernel
theorem dL_law__305 : decode cL_law_ 305 = .ok (.aload_n 0, 1) := by decide +kernel
theorem dL_law__306 : decode cL_law_ 306 = .ok (.iload 4, 2) := by decide +kernel
theorem dL_law__308 : decode cL_law_ 308 = .ok (.iconst 4, 1) := by decide +kernel
theorem dL_law__309 : decode cL_law_ 309 = .ok (.iadd, 1) := by decide +kernel
theorem dL_law__310 : decode cL_law_ 310 = .ok (.iaload, 1) := by decide +kernel
theorem dL_law__311 : decode cL_law_ 311 = .ok (.aload_n 0, 1) := by decide +kernel
theorem dL_law__312 : decode cL_law_ 312 = .ok (.iload 4, 2) := by decide +kernel
theorem dL_law__314 : decode cL_law_ 314 = .ok (.iconst 5, 1) := by decide +kernel
theorem dL_law__315 : decode cL_law_ 315 = .ok (.iadd, 1) := by decide +kernel
theorem dL_law__316 : decode cL_law_ 316 = .ok (.iaload, 1) := by decide +kernel
theorem dL_law__317 : decode cL_law_ 317 = .ok (.invokevirtual 134, 3) := by decide +kernel
theorem wi_1345 : Cond.methodLink RL 134 yX10_feed ∈ WA := zin 1345 (by decide +kernel) (by decide +kernel)
theorem wi_1348 : Cond.code yX10_feed cX10_feed 7 (some .int) ∈ WA := zin 1348 (by decide +kernel) (by decide +kernel)
theorem wi_1346 : Cond.instanceMethod yX10_feed ∈ WA := zin 1346 (by decide +kernel) (by decide +kernel)
theorem wi_1347 : Cond.selects RX10 yX10_feed yX10_feed ∈ WA := zin 1347 (by decide +kernel) (by decide +kernel)
theorem mv_L_134 : zMv RL 134 RX10 mX10_feed 5 := ⟨⟨wi_1345, wi_110, wi_1348, by decide, by decide +kernel⟩, wi_1346, wi_1347⟩
theorem dL_law__320 : decode cL_law_ 320 = .ok (.if_icmp .eq 2400, 3) := by decide +kernel
theorem dL_law__325 : decode cL_law_ 325 = .ok (.aload_n 1, 1) := by decide +kernel
theorem dL_law__326 : decode cL_law_ 326 = .ok (.aload_n 0, 1) := by decide +kernel
theorem dL_law__327 : decode cL_law_ 327 = .ok (.iload 4, 2) := by decide +kernel
theorem dL_law__329 : decode cL_law_ 329 = .ok (.iconst 1, 1) := by decide +kernel
theorem dL_law__330 : decode cL_law_ 330 = .ok (.iadd, 1) := by decide +kernel
theorem dL_law__331 : decode cL_law_ 331 = .ok (.iaload, 1) := by decide +kernel
theorem dL_law__332 : decode cL_law_ 332 = .ok (.invokevirtual 135, 3) := by decide +kernel
theorem wi_409 : Cond.methodLink RL 135 yX9_end ∈ WA := zin 409 (by decide +kernel) (by decide +kernel)
theorem wi_412 : Cond.code yX9_end cX9_end 2 (some .boolean) ∈ WA := zin 412 (by decide +kernel) (by decide +kernel)
theorem wi_410 : Cond.instanceMethod yX9_end ∈ WA := zin 410 (by decide +kernel) (by decide +kernel)
theorem wi_411 : Cond.selects RX9 yX9_end yX9_end ∈ WA := zin 411 (by decide +kernel) (by decide +kernel)
theorem mv_L_135 : zMv RL 135 RX9 mX9_end 1 := ⟨⟨wi_409, wi_100, wi_412, by decide, by decide +kernel⟩, wi_410, wi_411⟩
theorem dL_law__335 : decode cL_law_ 335 = .ok (.aload_n 2, 1) := by decide +kernel
theorem dL_law__336 : decode cL_law_ 336 = .ok (.aload_n 0, 1) := by decide +kernel
theorem dL_law__337 : decode cL_law_ 337 = .ok (.iload 4, 2) := by decide +kernel
theorem dL_law__339 : decode cL_law_ 339 = .ok (.iconst 1, 1) := by decide +kernel
theorem dL_law__340 : decode cL_law_ 340 = .ok (.iadd, 1) := by decide +kernel
theorem dL_law__341 : decode cL_law_ 341 = .ok (.iaload, 1) := by decide +kernel
theorem dL_law__342 : decode cL_law_ 342 = .ok (.invokevirtual 138, 3) := by decide +kernel
theorem wi_1349 : Cond.methodLink RL 138 yX10_end ∈ WA := zin 1349 (by decide +kernel) (by decide +kernel)
theorem wi_1352 : Cond.code yX10_end cX10_end 2 (some .boolean) ∈ WA := zin 1352 (by decide +kernel) (by decide +kernel)
theorem wi_1350 : Cond.instanceMethod yX10_end ∈ WA := zin 1350 (by decide +kernel) (by decide +kernel)
theorem wi_1351 : Cond.selects RX10 yX10_end yX10_end ∈ WA := zin 1351 (by decide +kernel) (by decide +kernel)
theorem mv_L_138 : zMv RL 138 RX10 mX10_end 1 := ⟨⟨wi_1349, wi_110, wi_1352, by decide, by decide +kernel⟩, wi_1350, wi_1351⟩
theorem dL_law__345 : decode cL_law_ 345 = .ok (.if_icmp .eq 2375, 3) := by decide +kernel
theorem dL_law__438 : decode cL_law_ 438 = .ok (.aload_n 1, 1) := by decide +kernel
theorem dL_law__439 : decode cL_law_ 439 = .ok (.invokevirtual 151, 3) := by decide +kernel
theorem wi_413 : Cond.methodLink RL 151 yX9_fault ∈ WA := zin 413 (by decide +kernel) (by decide +kernel)
theorem wi_416 : Cond.code yX9_fault cX9_fault 1 (some .int) ∈ WA := zin 416 (by decide +kernel) (by decide +kernel)
theorem wi_414 : Cond.instanceMethod yX9_fault ∈ WA := zin 414 (by decide +kernel) (by decide +kernel)
theorem wi_415 : Cond.selects RX9 yX9_fault yX9_fault ∈ WA := zin 415 (by decide +kernel) (by decide +kernel)
theorem mv_L_151 : zMv RL 151 RX9 mX9_fault 0 := ⟨⟨wi_413, wi_100, wi_416, by decide, by decide +kernel⟩, wi_414, wi_415⟩
theorem dL_law__442 : decode cL_law_ 442 = .ok (.aload_n 2, 1) := by decide +kernel
theorem dL_law__443 : decode cL_law_ 443 = .ok (.invokevirtual 154, 3) := by decide +kernel
theorem wi_1353 : Cond.methodLink RL 154 yX10_fault ∈ WA := zin 1353 (by decide +kernel) (by decide +kernel)
theorem wi_1356 : Cond.code yX10_fault cX10_fault 1 (some .int) ∈ WA := zin 1356 (by decide +kernel) (by decide +kernel)
theorem wi_1354 : Cond.instanceMethod yX10_fault ∈ WA := zin 1354 (by decide +kernel) (by decide +kernel)
theorem wi_1355 : Cond.selects RX10 yX10_fault yX10_fault ∈ WA := zin 1355 (by decide +kernel) (by decide +kernel)
theorem mv_L_154 : zMv RL 154 RX10 mX10_fault 0 := ⟨⟨wi_1353, wi_110, wi_1356, by decide, by decide +kernel⟩, wi_1354, wi_1355⟩
theorem dL_law__446 : decode cL_law_ 446 = .ok (.if_icmp .eq 2274, 3) := by decide +kernel
theorem dL_law__1898 : decode cL_law_ 1898 = .ok (.aload_n 1, 1) := by decide +kernel
theorem dL_law__1899 : decode cL_law_ 1899 = .ok (.invokevirtual 226, 3) := by decide +kernel
theorem wi_417 : Cond.methodLink RL 226 yX9_dearest ∈ WA := zin 417 (by decide +kernel) (by decide +kernel)
theorem wi_420 : Cond.code yX9_dearest cX9_dearest 3 (some .int) ∈ WA := zin 420 (by decide +kernel) (by decide +kernel)
theorem wi_418 : Cond.instanceMethod yX9_dearest ∈ WA := zin 418 (by decide +kernel) (by decide +kernel)
theorem wi_419 : Cond.selects RX9 yX9_dearest yX9_dearest ∈ WA := zin 419 (by decide +kernel) (by decide +kernel)
theorem mv_L_226 : zMv RL 226 RX9 mX9_dearest 0 := ⟨⟨wi_417, wi_100, wi_420, by decide, by decide +kernel⟩, wi_418, wi_419⟩
theorem dL_law__1902 : decode cL_law_ 1902 = .ok (.aload_n 2, 1) := by decide +kernel
theorem dL_law__1903 : decode cL_law_ 1903 = .ok (.invokevirtual 229, 3) := by decide +kernel
theorem wi_1852 : Cond.methodLink RL 229 yX10_dearest ∈ WA := zin 1852 (by decide +kernel) (by decide +kernel)
theorem wi_1855 : Cond.code yX10_dearest cX10_dearest 3 (some .int) ∈ WA := zin 1855 (by decide +kernel) (by decide +kernel)
theorem wi_1853 : Cond.instanceMethod yX10_dearest ∈ WA := zin 1853 (by decide +kernel) (by decide +kernel)
theorem wi_1854 : Cond.selects RX10 yX10_dearest yX10_dearest ∈ WA := zin 1854 (by decide +kernel) (by decide +kernel)
theorem mv_L_229 : zMv RL 229 RX10 mX10_dearest 0 := ⟨⟨wi_1852, wi_110, wi_1855, by decide, by decide +kernel⟩, wi_1853, wi_1854⟩
theorem dL_law__1906 : decode cL_law_ 1906 = .ok (.if_icmp .eq 814, 3) := by decide +kernel
theorem dL_law__1911 : decode cL_law_ 1911 = .ok (.aload_n 1, 1) := by decide +kernel
theorem dL_law__1912 : decode cL_law_ 1912 = .ok (.invokevirtual 230, 3) := by decide +kernel
theorem wi_437 : Cond.methodLink RL 230 yX9_unlucky ∈ WA := zin 437 (by decide +kernel) (by decide +kernel)
theorem wi_440 : Cond.code yX9_unlucky cX9_unlucky 3 (some .int) ∈ WA := zin 440 (by decide +kernel) (by decide +kernel)
theorem wi_438 : Cond.instanceMethod yX9_unlucky ∈ WA := zin 438 (by decide +kernel) (by decide +kernel)
theorem wi_439 : Cond.selects RX9 yX9_unlucky yX9_unlucky ∈ WA := zin 439 (by decide +kernel) (by decide +kernel)
theorem mv_L_230 : zMv RL 230 RX9 mX9_unlucky 0 := ⟨⟨wi_437, wi_100, wi_440, by decide, by decide +kernel⟩, wi_438, wi_439⟩
theorem dL_law__1915 : decode cL_law_ 1915 = .ok (.aload_n 2, 1) := by decide +kernel
theorem dL_law__1916 : decode cL_law_ 1916 = .ok (.invokevirtual 233, 3) := by decide +kernel
theorem wi_1856 : Cond.methodLink RL 233 yX10_unlucky ∈ WA := zin 1856 (by decide +kernel) (by decide +kernel)
theorem wi_1859 : Cond.code yX10_unlucky cX10_unlucky 3 (some .int) ∈ WA := zin 1859 (by decide +kernel) (by decide +kernel)
theorem wi_1857 : Cond.instanceMethod yX10_unlucky ∈ WA := zin 1857 (by decide +kernel) (by decide +kernel)
theorem wi_1858 : Cond.selects RX10 yX10_unlucky yX10_unlucky ∈ WA := zin 1858 (by decide +kernel) (by decide +kernel)
theorem mv_L_233 : zMv RL 233 RX10 mX10_unlucky 0 := ⟨⟨wi_1856, wi_110, wi_1859, by decide, by decide +kernel⟩, wi_1857, wi_1858⟩
theorem dL_law__1919 : decode cL_law_ 1919 = .ok (.if_icmp .eq 801, 3) := by decide +kernel
theorem dL_law__2167 : decode cL_law_ 2167 = .ok (.aload_n 1, 1) := by decide +kernel
theorem dL_law__2168 : decode cL_law_ 2168 = .ok (.invokevirtual 246, 3) := by decide +kernel
theorem wi_449 : Cond.methodLink RL 246 yX9_oldest ∈ WA := zin 449 (by decide +kernel) (by decide +kernel)
theorem wi_452 : Cond.code yX9_oldest cX9_oldest 3 (some .int) ∈ WA := zin 452 (by decide +kernel) (by decide +kernel)
theorem wi_450 : Cond.instanceMethod yX9_oldest ∈ WA := zin 450 (by decide +kernel) (by decide +kernel)
theorem wi_451 : Cond.selects RX9 yX9_oldest yX9_oldest ∈ WA := zin 451 (by decide +kernel) (by decide +kernel)
theorem mv_L_246 : zMv RL 246 RX9 mX9_oldest 0 := ⟨⟨wi_449, wi_100, wi_452, by decide, by decide +kernel⟩, wi_450, wi_451⟩
theorem dL_law__2171 : decode cL_law_ 2171 = .ok (.aload_n 2, 1) := by decide +kernel
theorem dL_law__2172 : decode cL_law_ 2172 = .ok (.invokevirtual 249, 3) := by decide +kernel
theorem wi_1872 : Cond.methodLink RL 249 yX10_oldest ∈ WA := zin 1872 (by decide +kernel) (by decide +kernel)
theorem wi_1875 : Cond.code yX10_oldest cX10_oldest 3 (some .int) ∈ WA := zin 1875 (by decide +kernel) (by decide +kernel)
theorem wi_1873 : Cond.instanceMethod yX10_oldest ∈ WA := zin 1873 (by decide +kernel) (by decide +kernel)
theorem wi_1874 : Cond.selects RX10 yX10_oldest yX10_oldest ∈ WA := zin 1874 (by decide +kernel) (by decide +kernel)
theorem mv_L_249 : zMv RL 249 RX10 mX10_oldest 0 := ⟨⟨wi_1872, wi_110, wi_1875, by decide, by decide +kernel⟩, wi_1873, wi_1874⟩
theorem dL_law__2175 : decode cL_law_ 2175 = .ok (.if_icmp .eq 545, 3) := by decide +kernel
theorem dL_law__2180 : decode cL_law_ 2180 = .ok (.aload_n 1, 1) := by decide +kernel
theorem dL_law__2181 : decode cL_law_ 2181 = .ok (.invokevirtual 250, 3) := by decide +kernel
theorem wi_454 : Cond.methodLink RL 250 yX9_stuck ∈ WA := zin 454 (by decide +kernel) (by decide +kernel)
theorem wi_457 : Cond.code yX9_stuck cX9_stuck 1 (some .int) ∈ WA := zin 457 (by decide +kernel) (by decide +kernel)
theorem wi_455 : Cond.instanceMethod yX9_stuck ∈ WA := zin 455 (by decide +kernel) (by decide +kernel)
theorem wi_456 : Cond.selects RX9 yX9_stuck yX9_stuck ∈ WA := zin 456 (by decide +kernel) (by decide +kernel)
theorem mv_L_250 : zMv RL 250 RX9 mX9_stuck 0 := ⟨⟨wi_454, wi_100, wi_457, by decide, by decide +kernel⟩, wi_455, wi_456⟩
theorem dL_law__2184 : decode cL_law_ 2184 = .ok (.aload_n 2, 1) := by decide +kernel
theorem dL_law__2185 : decode cL_law_ 2185 = .ok (.invokevirtual 253, 3) := by decide +kernel
theorem wi_1876 : Cond.methodLink RL 253 yX10_stuck ∈ WA := zin 1876 (by decide +kernel) (by decide +kernel)
theorem wi_1879 : Cond.code yX10_stuck cX10_stuck 1 (some .int) ∈ WA := zin 1879 (by decide +kernel) (by decide +kernel)
theorem wi_1877 : Cond.instanceMethod yX10_stuck ∈ WA := zin 1877 (by decide +kernel) (by decide +kernel)
theorem wi_1878 : Cond.selects RX10 yX10_stuck yX10_stuck ∈ WA := zin 1878 (by decide +kernel) (by decide +kernel)
theorem mv_L_253 : zMv RL 253 RX10 mX10_stuck 0 := ⟨⟨wi_1876, wi_110, wi_1879, by decide, by decide +kernel⟩, wi_1877, wi_1878⟩
theorem dL_law__2188 : decode cL_law_ 2188 = .ok (.if_icmp .eq 532, 3) := by decide +kernel
theorem dL_law__2193 : decode cL_law_ 2193 = .ok (.aload_n 1, 1) := by decide +kernel
theorem dL_law__2194 : decode cL_law_ 2194 = .ok (.invokevirtual 254, 3) := by decide +kernel
theorem wi_462 : Cond.methodLink RL 254 yX9_pawned ∈ WA := zin 462 (by decide +kernel) (by decide +kernel)
theorem wi_465 : Cond.code yX9_pawned cX9_pawned 1 (some .int) ∈ WA := zin 465 (by decide +kernel) (by decide +kernel)
theorem wi_463 : Cond.instanceMethod yX9_pawned ∈ WA := zin 463 (by decide +kernel) (by decide +kernel)
theorem wi_464 : Cond.selects RX9 yX9_pawned yX9_pawned ∈ WA := zin 464 (by decide +kernel) (by decide +kernel)
theorem mv_L_254 : zMv RL 254 RX9 mX9_pawned 0 := ⟨⟨wi_462, wi_100, wi_465, by decide, by decide +kernel⟩, wi_463, wi_464⟩
theorem dL_law__2197 : decode cL_law_ 2197 = .ok (.aload_n 2, 1) := by decide +kernel
theorem dL_law__2198 : decode cL_law_ 2198 = .ok (.invokevirtual 257, 3) := by decide +kernel
theorem wi_1880 : Cond.methodLink RL 257 yX10_pawned ∈ WA := zin 1880 (by decide +kernel) (by decide +kernel)
theorem wi_1883 : Cond.code yX10_pawned cX10_pawned 1 (some .int) ∈ WA := zin 1883 (by decide +kernel) (by decide +kernel)
theorem wi_1881 : Cond.instanceMethod yX10_pawned ∈ WA := zin 1881 (by decide +kernel) (by decide +kernel)
theorem wi_1882 : Cond.selects RX10 yX10_pawned yX10_pawned ∈ WA := zin 1882 (by decide +kernel) (by decide +kernel)
theorem mv_L_257 : zMv RL 257 RX10 mX10_pawned 0 := ⟨⟨wi_1880, wi_110, wi_1883, by decide, by decide +kernel⟩, wi_1881, wi_1882⟩
theorem dL_law__2201 : decode cL_law_ 2201 = .ok (.if_icmp .eq 519, 3) := by decide +kernel
theorem dL_law__2206 : decode cL_law_ 2206 = .ok (.aload_n 1, 1) := by decide +kernel
theorem dL_law__2207 : decode cL_law_ 2207 = .ok (.invokevirtual 258, 3) := by decide +kernel
theorem wi_466 : Cond.methodLink RL 258 yX9_blue ∈ WA := zin 466 (by decide +kernel) (by decide +kernel)
theorem wi_469 : Cond.code yX9_blue cX9_blue 1 (some .int) ∈ WA := zin 469 (by decide +kernel) (by decide +kernel)
theorem wi_467 : Cond.instanceMethod yX9_blue ∈ WA := zin 467 (by decide +kernel) (by decide +kernel)
theorem wi_468 : Cond.selects RX9 yX9_blue yX9_blue ∈ WA := zin 468 (by decide +kernel) (by decide +kernel)
theorem mv_L_258 : zMv RL 258 RX9 mX9_blue 0 := ⟨⟨wi_466, wi_100, wi_469, by decide, by decide +kernel⟩, wi_467, wi_468⟩
theorem dL_law__2210 : decode cL_law_ 2210 = .ok (.aload_n 2, 1) := by decide +kernel
theorem dL_law__2211 : decode cL_law_ 2211 = .ok (.invokevirtual 261, 3) := by decide +kernel
theorem wi_1884 : Cond.methodLink RL 261 yX10_blue ∈ WA := zin 1884 (by decide +kernel) (by decide +kernel)
theorem wi_1887 : Cond.code yX10_blue cX10_blue 1 (some .int) ∈ WA := zin 1887 (by decide +kernel) (by decide +kernel)
theorem wi_1885 : Cond.instanceMethod yX10_blue ∈ WA := zin 1885 (by decide +kernel) (by decide +kernel)
theorem wi_1886 : Cond.selects RX10 yX10_blue yX10_blue ∈ WA := zin 1886 (by decide +kernel) (by decide +kernel)
theorem mv_L_261 : zMv RL 261 RX10 mX10_blue 0 := ⟨⟨wi_1884, wi_110, wi_1887, by decide, by decide +kernel⟩, wi_1885, wi_1886⟩
theorem dL_law__2214 : decode cL_law_ 2214 = .ok (.if_icmp .eq 506, 3) := by decide +kernel
theorem dL_law__2219 : decode cL_law_ 2219 = .ok (.aload_n 1, 1) := by decide +kernel
theorem dL_law__2220 : decode cL_law_ 2220 = .ok (.invokevirtual 262, 3) := by decide +kernel
theorem wi_470 : Cond.methodLink RL 262 yX9_alike ∈ WA := zin 470 (by decide +kernel) (by decide +kernel)
theorem wi_473 : Cond.code yX9_alike cX9_alike 4 (some .int) ∈ WA := zin 473 (by decide +kernel) (by decide +kernel)
theorem wi_471 : Cond.instanceMethod yX9_alike ∈ WA := zin 471 (by decide +kernel) (by decide +kernel)
theorem wi_472 : Cond.selects RX9 yX9_alike yX9_alike ∈ WA := zin 472 (by decide +kernel) (by decide +kernel)
theorem mv_L_262 : zMv RL 262 RX9 mX9_alike 0 := ⟨⟨wi_470, wi_100, wi_473, by decide, by decide +kernel⟩, wi_471, wi_472⟩
theorem dL_law__2223 : decode cL_law_ 2223 = .ok (.aload_n 2, 1) := by decide +kernel
theorem dL_law__2224 : decode cL_law_ 2224 = .ok (.invokevirtual 265, 3) := by decide +kernel
theorem wi_1888 : Cond.methodLink RL 265 yX10_alike ∈ WA := zin 1888 (by decide +kernel) (by decide +kernel)
theorem wi_1891 : Cond.code yX10_alike cX10_alike 4 (some .int) ∈ WA := zin 1891 (by decide +kernel) (by decide +kernel)
theorem wi_1889 : Cond.instanceMethod yX10_alike ∈ WA := zin 1889 (by decide +kernel) (by decide +kernel)
theorem wi_1890 : Cond.selects RX10 yX10_alike yX10_alike ∈ WA := zin 1890 (by decide +kernel) (by decide +kernel)
theorem mv_L_265 : zMv RL 265 RX10 mX10_alike 0 := ⟨⟨wi_1888, wi_110, wi_1891, by decide, by decide +kernel⟩, wi_1889, wi_1890⟩
theorem dL_law__2227 : decode cL_law_ 2227 = .ok (.if_icmp .eq 493, 3) := by decide +kernel
theorem dL_law__2300 : decode cL_law_ 2300 = .ok (.aload_n 1, 1) := by decide +kernel
theorem dL_law__2301 : decode cL_law_ 2301 = .ok (.invokevirtual 269, 3) := by decide +kernel
theorem wi_478 : Cond.methodLink RL 269 yX9_odds ∈ WA := zin 478 (by decide +kernel) (by decide +kernel)
theorem wi_481 : Cond.code yX9_odds cX9_odds 5 (some .int) ∈ WA := zin 481 (by decide +kernel) (by decide +kernel)
theorem wi_479 : Cond.instanceMethod yX9_odds ∈ WA := zin 479 (by decide +kernel) (by decide +kernel)
theorem wi_480 : Cond.selects RX9 yX9_odds yX9_odds ∈ WA := zin 480 (by decide +kernel) (by decide +kernel)
theorem mv_L_269 : zMv RL 269 RX9 mX9_odds 0 := ⟨⟨wi_478, wi_100, wi_481, by decide, by decide +kernel⟩, wi_479, wi_480⟩
theorem dL_law__2304 : decode cL_law_ 2304 = .ok (.aload_n 2, 1) := by decide +kernel
theorem dL_law__2305 : decode cL_law_ 2305 = .ok (.invokevirtual 272, 3) := by decide +kernel
theorem wi_1900 : Cond.methodLink RL 272 yX10_odds ∈ WA := zin 1900 (by decide +kernel) (by decide +kernel)
theorem wi_1903 : Cond.code yX10_odds cX10_odds 4 (some .int) ∈ WA := zin 1903 (by decide +kernel) (by decide +kernel)
theorem wi_1901 : Cond.instanceMethod yX10_odds ∈ WA := zin 1901 (by decide +kernel) (by decide +kernel)
theorem wi_1902 : Cond.selects RX10 yX10_odds yX10_odds ∈ WA := zin 1902 (by decide +kernel) (by decide +kernel)
theorem mv_L_272 : zMv RL 272 RX10 mX10_odds 0 := ⟨⟨wi_1900, wi_110, wi_1903, by decide, by decide +kernel⟩, wi_1901, wi_1902⟩
theorem dL_law__2308 : decode cL_law_ 2308 = .ok (.if_icmp .eq 412, 3) := by decide +kernel
theorem dL_law__2633 : decode cL_law_ 2633 = .ok (.aload_n 1, 1) := by decide +kernel
theorem dL_law__2634 : decode cL_law_ 2634 = .ok (.aload_n 0, 1) := by decide +kernel
theorem dL_law__2635 : decode cL_law_ 2635 = .ok (.iload 4, 2) := by decide +kernel
theorem dL_law__2637 : decode cL_law_ 2637 = .ok (.iconst 1, 1) := by decide +kernel
theorem dL_law__2638 : decode cL_law_ 2638 = .ok (.iadd, 1) := by decide +kernel
theorem dL_law__2639 : decode cL_law_ 2639 = .ok (.iaload, 1) := by decide +kernel
theorem dL_law__2640 : decode cL_law_ 2640 = .ok (.invokevirtual 285, 3) := by decide +kernel
theorem wi_490 : Cond.methodLink RL 285 yX9_seed ∈ WA := zin 490 (by decide +kernel) (by decide +kernel)
theorem wi_493 : Cond.code yX9_seed cX9_seed 3 (some .int) ∈ WA := zin 493 (by decide +kernel) (by decide +kernel)
theorem wi_491 : Cond.instanceMethod yX9_seed ∈ WA := zin 491 (by decide +kernel) (by decide +kernel)
theorem wi_492 : Cond.selects RX9 yX9_seed yX9_seed ∈ WA := zin 492 (by decide +kernel) (by decide +kernel)
theorem mv_L_285 : zMv RL 285 RX9 mX9_seed 1 := ⟨⟨wi_490, wi_100, wi_493, by decide, by decide +kernel⟩, wi_491, wi_492⟩
theorem dL_law__2643 : decode cL_law_ 2643 = .ok (.aload_n 2, 1) := by decide +kernel
theorem dL_law__2644 : decode cL_law_ 2644 = .ok (.aload_n 0, 1) := by decide +kernel
theorem dL_law__2645 : decode cL_law_ 2645 = .ok (.iload 4, 2) := by decide +kernel
theorem dL_law__2647 : decode cL_law_ 2647 = .ok (.iconst 1, 1) := by decide +kernel
theorem dL_law__2648 : decode cL_law_ 2648 = .ok (.iadd, 1) := by decide +kernel
theorem dL_law__2649 : decode cL_law_ 2649 = .ok (.iaload, 1) := by decide +kernel
theorem dL_law__2650 : decode cL_law_ 2650 = .ok (.invokevirtual 288, 3) := by decide +kernel
theorem wi_1924 : Cond.methodLink RL 288 yX10_seed ∈ WA := zin 1924 (by decide +kernel) (by decide +kernel)
theorem wi_1927 : Cond.code yX10_seed cX10_seed 3 (some .int) ∈ WA := zin 1927 (by decide +kernel) (by decide +kernel)
theorem wi_1925 : Cond.instanceMethod yX10_seed ∈ WA := zin 1925 (by decide +kernel) (by decide +kernel)
theorem wi_1926 : Cond.selects RX10 yX10_seed yX10_seed ∈ WA := zin 1926 (by decide +kernel) (by decide +kernel)
theorem mv_L_288 : zMv RL 288 RX10 mX10_seed 1 := ⟨⟨wi_1924, wi_110, wi_1927, by decide, by decide +kernel⟩, wi_1925, wi_1926⟩
theorem dL_law__2653 : decode cL_law_ 2653 = .ok (.if_icmp .eq 67, 3) := by decide +kernel
theorem dL_law__2658 : decode cL_law_ 2658 = .ok (.aload_n 1, 1) := by decide +kernel
theorem dL_law__2659 : decode cL_law_ 2659 = .ok (.invokevirtual 289, 3) := by decide +kernel
theorem wi_494 : Cond.methodLink RL 289 yX9_undo ∈ WA := zin 494 (by decide +kernel) (by decide +kernel)
theorem wi_497 : Cond.code yX9_undo cX9_undo 1 (some .boolean) ∈ WA := zin 497 (by decide +kernel) (by decide +kernel)
theorem wi_495 : Cond.instanceMethod yX9_undo ∈ WA := zin 495 (by decide +kernel) (by decide +kernel)
theorem wi_496 : Cond.selects RX9 yX9_undo yX9_undo ∈ WA := zin 496 (by decide +kernel) (by decide +kernel)
theorem mv_L_289 : zMv RL 289 RX9 mX9_undo 0 := ⟨⟨wi_494, wi_100, wi_497, by decide, by decide +kernel⟩, wi_495, wi_496⟩
theorem dL_law__2662 : decode cL_law_ 2662 = .ok (.aload_n 2, 1) := by decide +kernel
theorem dL_law__2663 : decode cL_law_ 2663 = .ok (.invokevirtual 293, 3) := by decide +kernel
theorem wi_1341 : Cond.methodLink RL 293 yX10_undo ∈ WA := zin 1341 (by decide +kernel) (by decide +kernel)
theorem wi_1344 : Cond.code yX10_undo cX10_undo 2 (some .boolean) ∈ WA := zin 1344 (by decide +kernel) (by decide +kernel)
theorem wi_1342 : Cond.instanceMethod yX10_undo ∈ WA := zin 1342 (by decide +kernel) (by decide +kernel)
theorem wi_1343 : Cond.selects RX10 yX10_undo yX10_undo ∈ WA := zin 1343 (by decide +kernel) (by decide +kernel)
theorem mv_L_293 : zMv RL 293 RX10 mX10_undo 0 := ⟨⟨wi_1341, wi_110, wi_1344, by decide, by decide +kernel⟩, wi_1342, wi_1343⟩
theorem dL_law__2666 : decode cL_law_ 2666 = .ok (.if_icmp .eq 54, 3) := by decide +kernel
theorem dL_law__2671 : decode cL_law_ 2671 = .ok (.aload_n 1, 1) := by decide +kernel
theorem dL_law__2672 : decode cL_law_ 2672 = .ok (.invokevirtual 294, 3) := by decide +kernel
theorem wi_509 : Cond.methodLink RL 294 yX9_image ∈ WA := zin 509 (by decide +kernel) (by decide +kernel)
theorem wi_512 : Cond.code yX9_image cX9_image 1 (none) ∈ WA := zin 512 (by decide +kernel) (by decide +kernel)
theorem wi_510 : Cond.instanceMethod yX9_image ∈ WA := zin 510 (by decide +kernel) (by decide +kernel)
theorem wi_511 : Cond.selects RX9 yX9_image yX9_image ∈ WA := zin 511 (by decide +kernel) (by decide +kernel)
theorem mv_L_294 : zMv RL 294 RX9 mX9_image 0 := ⟨⟨wi_509, wi_100, wi_512, by decide, by decide +kernel⟩, wi_510, wi_511⟩
theorem dL_law__2675 : decode cL_law_ 2675 = .ok (.aload_n 2, 1) := by decide +kernel
theorem dL_law__2676 : decode cL_law_ 2676 = .ok (.invokevirtual 297, 3) := by decide +kernel
theorem wi_1333 : Cond.methodLink RL 297 yX10_image ∈ WA := zin 1333 (by decide +kernel) (by decide +kernel)
theorem wi_1336 : Cond.code yX10_image cX10_image 2 (none) ∈ WA := zin 1336 (by decide +kernel) (by decide +kernel)
theorem wi_1334 : Cond.instanceMethod yX10_image ∈ WA := zin 1334 (by decide +kernel) (by decide +kernel)
theorem wi_1335 : Cond.selects RX10 yX10_image yX10_image ∈ WA := zin 1335 (by decide +kernel) (by decide +kernel)
theorem mv_L_297 : zMv RL 297 RX10 mX10_image 0 := ⟨⟨wi_1333, wi_110, wi_1336, by decide, by decide +kernel⟩, wi_1334, wi_1335⟩
theorem dL_law__2679 : decode cL_law_ 2679 = .ok (.goto 41, 3) := by decide +kernel
theorem dL_law__2682 : decode cL_law_ 2682 = .ok (.aload_n 1, 1) := by decide +kernel
theorem dL_law__2683 : decode cL_law_ 2683 = .ok (.invokevirtual 298, 3) := by decide +kernel
theorem wi_519 : Cond.methodLink RL 298 yX9_back ∈ WA := zin 519 (by decide +kernel) (by decide +kernel)
theorem wi_522 : Cond.code yX9_back cX9_back 1 (some .boolean) ∈ WA := zin 522 (by decide +kernel) (by decide +kernel)
theorem wi_520 : Cond.instanceMethod yX9_back ∈ WA := zin 520 (by decide +kernel) (by decide +kernel)
theorem wi_521 : Cond.selects RX9 yX9_back yX9_back ∈ WA := zin 521 (by decide +kernel) (by decide +kernel)
theorem mv_L_298 : zMv RL 298 RX9 mX9_back 0 := ⟨⟨wi_519, wi_100, wi_522, by decide, by decide +kernel⟩, wi_520, wi_521⟩
theorem dL_law__2686 : decode cL_law_ 2686 = .ok (.aload_n 2, 1) := by decide +kernel
theorem dL_law__2687 : decode cL_law_ 2687 = .ok (.invokevirtual 301, 3) := by decide +kernel
theorem wi_1337 : Cond.methodLink RL 301 yX10_back ∈ WA := zin 1337 (by decide +kernel) (by decide +kernel)
theorem wi_1340 : Cond.code yX10_back cX10_back 2 (some .boolean) ∈ WA := zin 1340 (by decide +kernel) (by decide +kernel)
theorem wi_1338 : Cond.instanceMethod yX10_back ∈ WA := zin 1338 (by decide +kernel) (by decide +kernel)
theorem wi_1339 : Cond.selects RX10 yX10_back yX10_back ∈ WA := zin 1339 (by decide +kernel) (by decide +kernel)
theorem mv_L_301 : zMv RL 301 RX10 mX10_back 0 := ⟨⟨wi_1337, wi_110, wi_1340, by decide, by decide +kernel⟩, wi_1338, wi_1339⟩
theorem dL_law__2690 : decode cL_law_ 2690 = .ok (.if_icmp .eq 30, 3) := by decide +kernel
theorem dL_law__2695 : decode cL_law_ 2695 = .ok (.aload_n 1, 1) := by decide +kernel
theorem dL_law__2696 : decode cL_law_ 2696 = .ok (.aload_n 0, 1) := by decide +kernel
theorem dL_law__2697 : decode cL_law_ 2697 = .ok (.iload 4, 2) := by decide +kernel
theorem dL_law__2699 : decode cL_law_ 2699 = .ok (.iconst 1, 1) := by decide +kernel
theorem dL_law__2700 : decode cL_law_ 2700 = .ok (.iadd, 1) := by decide +kernel
theorem dL_law__2701 : decode cL_law_ 2701 = .ok (.iaload, 1) := by decide +kernel
theorem dL_law__2702 : decode cL_law_ 2702 = .ok (.invokevirtual 302, 3) := by decide +kernel
theorem wi_527 : Cond.methodLink RL 302 yX9_count ∈ WA := zin 527 (by decide +kernel) (by decide +kernel)
theorem wi_530 : Cond.code yX9_count cX9_count 2 (some .int) ∈ WA := zin 530 (by decide +kernel) (by decide +kernel)
theorem wi_528 : Cond.instanceMethod yX9_count ∈ WA := zin 528 (by decide +kernel) (by decide +kernel)
theorem wi_529 : Cond.selects RX9 yX9_count yX9_count ∈ WA := zin 529 (by decide +kernel) (by decide +kernel)
theorem mv_L_302 : zMv RL 302 RX9 mX9_count 1 := ⟨⟨wi_527, wi_100, wi_530, by decide, by decide +kernel⟩, wi_528, wi_529⟩
theorem dL_law__2705 : decode cL_law_ 2705 = .ok (.aload_n 2, 1) := by decide +kernel
theorem dL_law__2706 : decode cL_law_ 2706 = .ok (.aload_n 0, 1) := by decide +kernel
theorem dL_law__2707 : decode cL_law_ 2707 = .ok (.iload 4, 2) := by decide +kernel
theorem dL_law__2709 : decode cL_law_ 2709 = .ok (.iconst 1, 1) := by decide +kernel
theorem dL_law__2710 : decode cL_law_ 2710 = .ok (.iadd, 1) := by decide +kernel
theorem dL_law__2711 : decode cL_law_ 2711 = .ok (.iaload, 1) := by decide +kernel
theorem dL_law__2712 : decode cL_law_ 2712 = .ok (.invokevirtual 305, 3) := by decide +kernel
theorem wi_1928 : Cond.methodLink RL 305 yX10_count ∈ WA := zin 1928 (by decide +kernel) (by decide +kernel)
theorem wi_1931 : Cond.code yX10_count cX10_count 5 (some .int) ∈ WA := zin 1931 (by decide +kernel) (by decide +kernel)
theorem wi_1929 : Cond.instanceMethod yX10_count ∈ WA := zin 1929 (by decide +kernel) (by decide +kernel)
theorem wi_1930 : Cond.selects RX10 yX10_count yX10_count ∈ WA := zin 1930 (by decide +kernel) (by decide +kernel)
theorem mv_L_305 : zMv RL 305 RX10 mX10_count 1 := ⟨⟨wi_1928, wi_110, wi_1931, by decide, by decide +kernel⟩, wi_1929, wi_1930⟩
theorem dL_law__2715 : decode cL_law_ 2715 = .ok (.if_icmp .eq 5, 3) := by decide +kernel
section LawC
variable {G0 : Gx} {b0 : Nat} {xs : Nat → Int32}
theorem lcp_feed (h9 : gad G0 998 = b0) (ad : Nat → Nat) (v0 : Int32) (hc : Ct (gw G0 ad) GAM mX9_feed 19 0 [.ref 0, .int (xs 1), .int (xs 2), .int (xs 3), .int (xs 4), .int (xs 5)] I0 (fun o K => o = .inl (some (.int v0)) ∧ FM K)) (hm : ∀ J : Hi, FM J → Ct (gw G0 ad) GAM mX10_feed 19 0 [.ref 94, .int (xs 1), .int (xs 2), .int (xs 3), .int (xs 4), .int (xs 5)] J (fun o K => o = .inl (some (.int v0)))) : Rn (gw G0 ad) GAM mL_law_ (kZ (kL b0 6 xs) G0 0 ad 108) 20 400000 252 [some (.ref 998), some (.ref 0), some (.ref 94), some (.ref 107), some (.int (nI 0)), none, none] [] I0 := by
  refine Rn.aload_n dL_law__252 rfl rfl ?_
  refine Rn.aload_n dL_law__253 rfl rfl ?_
  refine Rn.iload dL_law__254 rfl ?_
  refine Rn.iconst (v := (nI 1)) dL_law__256 rfl ?_
  refine Rn.iadd dL_law__257 ?_
  refine Rn.topI (nI 1) (by decide) ?_
  refine Rn.sld dL_law__258 h9 (by decide) (by decide) rfl ?_
  refine Rn.aload_n dL_law__259 rfl rfl ?_
  refine Rn.iload dL_law__260 rfl ?_
  refine Rn.iconst (v := (nI 2)) dL_law__262 rfl ?_
  refine Rn.iadd dL_law__263 ?_
  refine Rn.topI (nI 2) (by decide) ?_
  refine Rn.sld dL_law__264 h9 (by decide) (by decide) rfl ?_
  refine Rn.aload_n dL_law__265 rfl rfl ?_
  refine Rn.iload dL_law__266 rfl ?_
  refine Rn.iconst (v := (nI 3)) dL_law__268 rfl ?_
  refine Rn.iadd dL_law__269 ?_
  refine Rn.topI (nI 3) (by decide) ?_
  refine Rn.sld dL_law__270 h9 (by decide) (by decide) rfl ?_
  refine Rn.aload_n dL_law__271 rfl rfl ?_
  refine Rn.iload dL_law__272 rfl ?_
  refine Rn.iconst (v := (nI 4)) dL_law__274 rfl ?_
  refine Rn.iadd dL_law__275 ?_
  refine Rn.topI (nI 4) (by decide) ?_
  refine Rn.sld dL_law__276 h9 (by decide) (by decide) rfl ?_
  refine Rn.aload_n dL_law__277 rfl rfl ?_
  refine Rn.iload dL_law__278 rfl ?_
  refine Rn.iconst (v := (nI 5)) dL_law__280 rfl ?_
  refine Rn.iadd dL_law__281 ?_
  refine Rn.topI (nI 5) (by decide) ?_
  refine Rn.sld dL_law__282 h9 (by decide) (by decide) rfl ?_
  refine Rn.callV (As := [_, _, _, _, _]) dL_law__283 mv_L_130 (by first | rfl | exact gC0 (by assumption) | exact gL0 (by assumption)) rfl rfl rfl (Nat.le_of_ble_eq_true rfl) hc (fun E J q => nomatch q.1) (fun v J q => ?_)
  obtain ⟨e1, hF⟩ := q
  cases e1
  refine Rn.aload_n dL_law__286 rfl rfl ?_
  refine Rn.aload_n dL_law__287 rfl rfl ?_
  refine Rn.iload dL_law__288 rfl ?_
  refine Rn.iconst (v := (nI 1)) dL_law__290 rfl ?_
  refine Rn.iadd dL_law__291 ?_
  refine Rn.topI (nI 1) (by decide) ?_
  refine Rn.sld dL_law__292 h9 (by decide) (by decide) rfl ?_
  refine Rn.aload_n dL_law__293 rfl rfl ?_
  refine Rn.iload dL_law__294 rfl ?_
  refine Rn.iconst (v := (nI 2)) dL_law__296 rfl ?_
  refine Rn.iadd dL_law__297 ?_
  refine Rn.topI (nI 2) (by decide) ?_
  refine Rn.sld dL_law__298 h9 (by decide) (by decide) rfl ?_
  refine Rn.aload_n dL_law__299 rfl rfl ?_
  refine Rn.iload dL_law__300 rfl ?_
  refine Rn.iconst (v := (nI 3)) dL_law__302 rfl ?_
  refine Rn.iadd dL_law__303 ?_
  refine Rn.topI (nI 3) (by decide) ?_
  refine Rn.sld dL_law__304 h9 (by decide) (by decide) rfl ?_
  refine Rn.aload_n dL_law__305 rfl rfl ?_
  refine Rn.iload dL_law__306 rfl ?_
  refine Rn.iconst (v := (nI 4)) dL_law__308 rfl ?_
  refine Rn.iadd dL_law__309 ?_
  refine Rn.topI (nI 4) (by decide) ?_
  refine Rn.sld dL_law__310 h9 (by decide) (by decide) rfl ?_
  refine Rn.aload_n dL_law__311 rfl rfl ?_
  refine Rn.iload dL_law__312 rfl ?_
  refine Rn.iconst (v := (nI 5)) dL_law__314 rfl ?_
  refine Rn.iadd dL_law__315 ?_
  refine Rn.topI (nI 5) (by decide) ?_
  refine Rn.sld dL_law__316 h9 (by decide) (by decide) rfl ?_
  refine Rn.callV (As := [_, _, _, _, _]) dL_law__317 mv_L_134 (by first | rfl | exact gC0 (by assumption) | exact gL0 (by assumption)) rfl rfl rfl (Nat.le_of_ble_eq_true rfl) (hm J hF) (fun E J q => nomatch q) (fun v K q => ?_)
  cases q
  refine Rn.icmp_eq (tgt := 2720) dL_law__320 (by decide) (fun _ => ?_) (fun h9 => by exfalso; exact h9 rfl)
  exact law_end h9 ad _ _ _ _ _
theorem lcp_end (h9 : gad G0 998 = b0) (ad : Nat → Nat) (v0 : Int32) (hc : Ct (gw G0 ad) GAM mX9_end 19 0 [.ref 0, .int (xs 1)] I0 (fun o K => o = .inl (some (.int v0)) ∧ FM K)) (hm : ∀ J : Hi, FM J → Ct (gw G0 ad) GAM mX10_end 19 0 [.ref 94, .int (xs 1)] J (fun o K => o = .inl (some (.int v0)))) : Rn (gw G0 ad) GAM mL_law_ (kZ (kL b0 6 xs) G0 0 ad 108) 20 400000 325 [some (.ref 998), some (.ref 0), some (.ref 94), some (.ref 107), some (.int (nI 0)), none, none] [] I0 := by
  refine Rn.aload_n dL_law__325 rfl rfl ?_
  refine Rn.aload_n dL_law__326 rfl rfl ?_
  refine Rn.iload dL_law__327 rfl ?_
  refine Rn.iconst (v := (nI 1)) dL_law__329 rfl ?_
  refine Rn.iadd dL_law__330 ?_
  refine Rn.topI (nI 1) (by decide) ?_
  refine Rn.sld dL_law__331 h9 (by decide) (by decide) rfl ?_
  refine Rn.callV (As := [_]) dL_law__332 mv_L_135 (by first | rfl | exact gC0 (by assumption) | exact gL0 (by assumption)) rfl rfl rfl (Nat.le_of_ble_eq_true rfl) hc (fun E J q => nomatch q.1) (fun v J q => ?_)
  obtain ⟨e1, hF⟩ := q
  cases e1
  refine Rn.aload_n dL_law__335 rfl rfl ?_
  refine Rn.aload_n dL_law__336 rfl rfl ?_
  refine Rn.iload dL_law__337 rfl ?_
  refine Rn.iconst (v := (nI 1)) dL_law__339 rfl ?_
  refine Rn.iadd dL_law__340 ?_
  refine Rn.topI (nI 1) (by decide) ?_
  refine Rn.sld dL_law__341 h9 (by decide) (by decide) rfl ?_
  refine Rn.callV (As := [_]) dL_law__342 mv_L_138 (by first | rfl | exact gC0 (by assumption) | exact gL0 (by assumption)) rfl rfl rfl (Nat.le_of_ble_eq_true rfl) (hm J hF) (fun E J q => nomatch q) (fun v K q => ?_)
  cases q
  refine Rn.icmp_eq (tgt := 2720) dL_law__345 (by decide) (fun _ => ?_) (fun h9 => by exfalso; exact h9 rfl)
  exact law_end h9 ad _ _ _ _ _
theorem lcp_fault (h9 : gad G0 998 = b0) (ad : Nat → Nat) (v0 : Int32) (hc : Ct (gw G0 ad) GAM mX9_fault 19 0 [.ref 0] I0 (fun o K => o = .inl (some (.int v0)) ∧ FM K)) (hm : ∀ J : Hi, FM J → Ct (gw G0 ad) GAM mX10_fault 19 0 [.ref 94] J (fun o K => o = .inl (some (.int v0)))) : Rn (gw G0 ad) GAM mL_law_ (kZ (kL b0 6 xs) G0 0 ad 108) 20 400000 438 [some (.ref 998), some (.ref 0), some (.ref 94), some (.ref 107), some (.int (nI 0)), none, none] [] I0 := by
  refine Rn.aload_n dL_law__438 rfl rfl ?_
  refine Rn.callV (As := []) dL_law__439 mv_L_151 (by first | rfl | exact gC0 (by assumption) | exact gL0 (by assumption)) rfl rfl rfl (Nat.le_of_ble_eq_true rfl) hc (fun E J q => nomatch q.1) (fun v J q => ?_)
  obtain ⟨e1, hF⟩ := q
  cases e1
  refine Rn.aload_n dL_law__442 rfl rfl ?_
  refine Rn.callV (As := []) dL_law__443 mv_L_154 (by first | rfl | exact gC0 (by assumption) | exact gL0 (by assumption)) rfl rfl rfl (Nat.le_of_ble_eq_true rfl) (hm J hF) (fun E J q => nomatch q) (fun v K q => ?_)
  cases q
  refine Rn.icmp_eq (tgt := 2720) dL_law__446 (by decide) (fun _ => ?_) (fun h9 => by exfalso; exact h9 rfl)
  exact law_end h9 ad _ _ _ _ _
theorem lcp_dearest (h9 : gad G0 998 = b0) (ad : Nat → Nat) (v0 : Int32) (hc : Ct (gw G0 ad) GAM mX9_dearest 19 0 [.ref 0] I0 (fun o K => o = .inl (some (.int v0)) ∧ FM K)) (hm : ∀ J : Hi, FM J → Ct (gw G0 ad) GAM mX10_dearest 19 0 [.ref 94] J (fun o K => o = .inl (some (.int v0)))) : Rn (gw G0 ad) GAM mL_law_ (kZ (kL b0 6 xs) G0 0 ad 108) 20 400000 1898 [some (.ref 998), some (.ref 0), some (.ref 94), some (.ref 107), some (.int (nI 0)), none, none] [] I0 := by
  refine Rn.aload_n dL_law__1898 rfl rfl ?_
  refine Rn.callV (As := []) dL_law__1899 mv_L_226 (by first | rfl | exact gC0 (by assumption) | exact gL0 (by assumption)) rfl rfl rfl (Nat.le_of_ble_eq_true rfl) hc (fun E J q => nomatch q.1) (fun v J q => ?_)
  obtain ⟨e1, hF⟩ := q
  cases e1
  refine Rn.aload_n dL_law__1902 rfl rfl ?_
  refine Rn.callV (As := []) dL_law__1903 mv_L_229 (by first | rfl | exact gC0 (by assumption) | exact gL0 (by assumption)) rfl rfl rfl (Nat.le_of_ble_eq_true rfl) (hm J hF) (fun E J q => nomatch q) (fun v K q => ?_)
  cases q
  refine Rn.icmp_eq (tgt := 2720) dL_law__1906 (by decide) (fun _ => ?_) (fun h9 => by exfalso; exact h9 rfl)
  exact law_end h9 ad _ _ _ _ _
theorem lcp_unlucky (h9 : gad G0 998 = b0) (ad : Nat → Nat) (v0 : Int32) (hc : Ct (gw G0 ad) GAM mX9_unlucky 19 0 [.ref 0] I0 (fun o K => o = .inl (some (.int v0)) ∧ FM K)) (hm : ∀ J : Hi, FM J → Ct (gw G0 ad) GAM mX10_unlucky 19 0 [.ref 94] J (fun o K => o = .inl (some (.int v0)))) : Rn (gw G0 ad) GAM mL_law_ (kZ (kL b0 6 xs) G0 0 ad 108) 20 400000 1911 [some (.ref 998), some (.ref 0), some (.ref 94), some (.ref 107), some (.int (nI 0)), none, none] [] I0 := by
  refine Rn.aload_n dL_law__1911 rfl rfl ?_
  refine Rn.callV (As := []) dL_law__1912 mv_L_230 (by first | rfl | exact gC0 (by assumption) | exact gL0 (by assumption)) rfl rfl rfl (Nat.le_of_ble_eq_true rfl) hc (fun E J q => nomatch q.1) (fun v J q => ?_)
  obtain ⟨e1, hF⟩ := q
  cases e1
  refine Rn.aload_n dL_law__1915 rfl rfl ?_
  refine Rn.callV (As := []) dL_law__1916 mv_L_233 (by first | rfl | exact gC0 (by assumption) | exact gL0 (by assumption)) rfl rfl rfl (Nat.le_of_ble_eq_true rfl) (hm J hF) (fun E J q => nomatch q) (fun v K q => ?_)
  cases q
  refine Rn.icmp_eq (tgt := 2720) dL_law__1919 (by decide) (fun _ => ?_) (fun h9 => by exfalso; exact h9 rfl)
  exact law_end h9 ad _ _ _ _ _
theorem lcp_oldest (h9 : gad G0 998 = b0) (ad : Nat → Nat) (v0 : Int32) (hc : Ct (gw G0 ad) GAM mX9_oldest 19 0 [.ref 0] I0 (fun o K => o = .inl (some (.int v0)) ∧ FM K)) (hm : ∀ J : Hi, FM J → Ct (gw G0 ad) GAM mX10_oldest 19 0 [.ref 94] J (fun o K => o = .inl (some (.int v0)))) : Rn (gw G0 ad) GAM mL_law_ (kZ (kL b0 6 xs) G0 0 ad 108) 20 400000 2167 [some (.ref 998), some (.ref 0), some (.ref 94), some (.ref 107), some (.int (nI 0)), none, none] [] I0 := by
  refine Rn.aload_n dL_law__2167 rfl rfl ?_
  refine Rn.callV (As := []) dL_law__2168 mv_L_246 (by first | rfl | exact gC0 (by assumption) | exact gL0 (by assumption)) rfl rfl rfl (Nat.le_of_ble_eq_true rfl) hc (fun E J q => nomatch q.1) (fun v J q => ?_)
  obtain ⟨e1, hF⟩ := q
  cases e1
  refine Rn.aload_n dL_law__2171 rfl rfl ?_
  refine Rn.callV (As := []) dL_law__2172 mv_L_249 (by first | rfl | exact gC0 (by assumption) | exact gL0 (by assumption)) rfl rfl rfl (Nat.le_of_ble_eq_true rfl) (hm J hF) (fun E J q => nomatch q) (fun v K q => ?_)
  cases q
  refine Rn.icmp_eq (tgt := 2720) dL_law__2175 (by decide) (fun _ => ?_) (fun h9 => by exfalso; exact h9 rfl)
  exact law_end h9 ad _ _ _ _ _
theorem lcp_stuck (h9 : gad G0 998 = b0) (ad : Nat → Nat) (v0 : Int32) (hc : Ct (gw G0 ad) GAM mX9_stuck 19 0 [.ref 0] I0 (fun o K => o = .inl (some (.int v0)) ∧ FM K)) (hm : ∀ J : Hi, FM J → Ct (gw G0 ad) GAM mX10_stuck 19 0 [.ref 94] J (fun o K => o = .inl (some (.int v0)))) : Rn (gw G0 ad) GAM mL_law_ (kZ (kL b0 6 xs) G0 0 ad 108) 20 400000 2180 [some (.ref 998), some (.ref 0), some (.ref 94), some (.ref 107), some (.int (nI 0)), none, none] [] I0 := by
  refine Rn.aload_n dL_law__2180 rfl rfl ?_
  refine Rn.callV (As := []) dL_law__2181 mv_L_250 (by first | rfl | exact gC0 (by assumption) | exact gL0 (by assumption)) rfl rfl rfl (Nat.le_of_ble_eq_true rfl) hc (fun E J q => nomatch q.1) (fun v J q => ?_)
  obtain ⟨e1, hF⟩ := q
  cases e1
  refine Rn.aload_n dL_law__2184 rfl rfl ?_
  refine Rn.callV (As := []) dL_law__2185 mv_L_253 (by first | rfl | exact gC0 (by assumption) | exact gL0 (by assumption)) rfl rfl rfl (Nat.le_of_ble_eq_true rfl) (hm J hF) (fun E J q => nomatch q) (fun v K q => ?_)
  cases q
  refine Rn.icmp_eq (tgt := 2720) dL_law__2188 (by decide) (fun _ => ?_) (fun h9 => by exfalso; exact h9 rfl)
  exact law_end h9 ad _ _ _ _ _
theorem lcp_pawned (h9 : gad G0 998 = b0) (ad : Nat → Nat) (v0 : Int32) (hc : Ct (gw G0 ad) GAM mX9_pawned 19 0 [.ref 0] I0 (fun o K => o = .inl (some (.int v0)) ∧ FM K)) (hm : ∀ J : Hi, FM J → Ct (gw G0 ad) GAM mX10_pawned 19 0 [.ref 94] J (fun o K => o = .inl (some (.int v0)))) : Rn (gw G0 ad) GAM mL_law_ (kZ (kL b0 6 xs) G0 0 ad 108) 20 400000 2193 [some (.ref 998), some (.ref 0), some (.ref 94), some (.ref 107), some (.int (nI 0)), none, none] [] I0 := by
  refine Rn.aload_n dL_law__2193 rfl rfl ?_
  refine Rn.callV (As := []) dL_law__2194 mv_L_254 (by first | rfl | exact gC0 (by assumption) | exact gL0 (by assumption)) rfl rfl rfl (Nat.le_of_ble_eq_true rfl) hc (fun E J q => nomatch q.1) (fun v J q => ?_)
  obtain ⟨e1, hF⟩ := q
  cases e1
  refine Rn.aload_n dL_law__2197 rfl rfl ?_
  refine Rn.callV (As := []) dL_law__2198 mv_L_257 (by first | rfl | exact gC0 (by assumption) | exact gL0 (by assumption)) rfl rfl rfl (Nat.le_of_ble_eq_true rfl) (hm J hF) (fun E J q => nomatch q) (fun v K q => ?_)
  cases q
  refine Rn.icmp_eq (tgt := 2720) dL_law__2201 (by decide) (fun _ => ?_) (fun h9 => by exfalso; exact h9 rfl)
  exact law_end h9 ad _ _ _ _ _
theorem lcp_blue (h9 : gad G0 998 = b0) (ad : Nat → Nat) (v0 : Int32) (hc : Ct (gw G0 ad) GAM mX9_blue 19 0 [.ref 0] I0 (fun o K => o = .inl (some (.int v0)) ∧ FM K)) (hm : ∀ J : Hi, FM J → Ct (gw G0 ad) GAM mX10_blue 19 0 [.ref 94] J (fun o K => o = .inl (some (.int v0)))) : Rn (gw G0 ad) GAM mL_law_ (kZ (kL b0 6 xs) G0 0 ad 108) 20 400000 2206 [some (.ref 998), some (.ref 0), some (.ref 94), some (.ref 107), some (.int (nI 0)), none, none] [] I0 := by
  refine Rn.aload_n dL_law__2206 rfl rfl ?_
  refine Rn.callV (As := []) dL_law__2207 mv_L_258 (by first | rfl | exact gC0 (by assumption) | exact gL0 (by assumption)) rfl rfl rfl (Nat.le_of_ble_eq_true rfl) hc (fun E J q => nomatch q.1) (fun v J q => ?_)
  obtain ⟨e1, hF⟩ := q
  cases e1
  refine Rn.aload_n dL_law__2210 rfl rfl ?_
  refine Rn.callV (As := []) dL_law__2211 mv_L_261 (by first | rfl | exact gC0 (by assumption) | exact gL0 (by assumption)) rfl rfl rfl (Nat.le_of_ble_eq_true rfl) (hm J hF) (fun E J q => nomatch q) (fun v K q => ?_)
  cases q
  refine Rn.icmp_eq (tgt := 2720) dL_law__2214 (by decide) (fun _ => ?_) (fun h9 => by exfalso; exact h9 rfl)
  exact law_end h9 ad _ _ _ _ _
theorem lcp_alike (h9 : gad G0 998 = b0) (ad : Nat → Nat) (v0 : Int32) (hc : Ct (gw G0 ad) GAM mX9_alike 19 0 [.ref 0] I0 (fun o K => o = .inl (some (.int v0)) ∧ FM K)) (hm : ∀ J : Hi, FM J → Ct (gw G0 ad) GAM mX10_alike 19 0 [.ref 94] J (fun o K => o = .inl (some (.int v0)))) : Rn (gw G0 ad) GAM mL_law_ (kZ (kL b0 6 xs) G0 0 ad 108) 20 400000 2219 [some (.ref 998), some (.ref 0), some (.ref 94), some (.ref 107), some (.int (nI 0)), none, none] [] I0 := by
  refine Rn.aload_n dL_law__2219 rfl rfl ?_
  refine Rn.callV (As := []) dL_law__2220 mv_L_262 (by first | rfl | exact gC0 (by assumption) | exact gL0 (by assumption)) rfl rfl rfl (Nat.le_of_ble_eq_true rfl) hc (fun E J q => nomatch q.1) (fun v J q => ?_)
  obtain ⟨e1, hF⟩ := q
  cases e1
  refine Rn.aload_n dL_law__2223 rfl rfl ?_
  refine Rn.callV (As := []) dL_law__2224 mv_L_265 (by first | rfl | exact gC0 (by assumption) | exact gL0 (by assumption)) rfl rfl rfl (Nat.le_of_ble_eq_true rfl) (hm J hF) (fun E J q => nomatch q) (fun v K q => ?_)
  cases q
  refine Rn.icmp_eq (tgt := 2720) dL_law__2227 (by decide) (fun _ => ?_) (fun h9 => by exfalso; exact h9 rfl)
  exact law_end h9 ad _ _ _ _ _
theorem lcp_odds (h9 : gad G0 998 = b0) (ad : Nat → Nat) (v0 : Int32) (hc : Ct (gw G0 ad) GAM mX9_odds 19 0 [.ref 0] I0 (fun o K => o = .inl (some (.int v0)) ∧ FM K)) (hm : ∀ J : Hi, FM J → Ct (gw G0 ad) GAM mX10_odds 19 0 [.ref 94] J (fun o K => o = .inl (some (.int v0)))) : Rn (gw G0 ad) GAM mL_law_ (kZ (kL b0 6 xs) G0 0 ad 108) 20 400000 2300 [some (.ref 998), some (.ref 0), some (.ref 94), some (.ref 107), some (.int (nI 0)), none, none] [] I0 := by
  refine Rn.aload_n dL_law__2300 rfl rfl ?_
  refine Rn.callV (As := []) dL_law__2301 mv_L_269 (by first | rfl | exact gC0 (by assumption) | exact gL0 (by assumption)) rfl rfl rfl (Nat.le_of_ble_eq_true rfl) hc (fun E J q => nomatch q.1) (fun v J q => ?_)
  obtain ⟨e1, hF⟩ := q
  cases e1
  refine Rn.aload_n dL_law__2304 rfl rfl ?_
  refine Rn.callV (As := []) dL_law__2305 mv_L_272 (by first | rfl | exact gC0 (by assumption) | exact gL0 (by assumption)) rfl rfl rfl (Nat.le_of_ble_eq_true rfl) (hm J hF) (fun E J q => nomatch q) (fun v K q => ?_)
  cases q
  refine Rn.icmp_eq (tgt := 2720) dL_law__2308 (by decide) (fun _ => ?_) (fun h9 => by exfalso; exact h9 rfl)
  exact law_end h9 ad _ _ _ _ _
theorem lcp_seed (h9 : gad G0 998 = b0) (ad : Nat → Nat) (v0 : Int32) (hc : Ct (gw G0 ad) GAM mX9_seed 19 0 [.ref 0, .int (xs 1)] I0 (fun o K => o = .inl (some (.int v0)) ∧ FM K)) (hm : ∀ J : Hi, FM J → Ct (gw G0 ad) GAM mX10_seed 19 0 [.ref 94, .int (xs 1)] J (fun o K => o = .inl (some (.int v0)))) : Rn (gw G0 ad) GAM mL_law_ (kZ (kL b0 6 xs) G0 0 ad 108) 20 400000 2633 [some (.ref 998), some (.ref 0), some (.ref 94), some (.ref 107), some (.int (nI 0)), none, none] [] I0 := by
  refine Rn.aload_n dL_law__2633 rfl rfl ?_
  refine Rn.aload_n dL_law__2634 rfl rfl ?_
  refine Rn.iload dL_law__2635 rfl ?_
  refine Rn.iconst (v := (nI 1)) dL_law__2637 rfl ?_
  refine Rn.iadd dL_law__2638 ?_
  refine Rn.topI (nI 1) (by decide) ?_
  refine Rn.sld dL_law__2639 h9 (by decide) (by decide) rfl ?_
  refine Rn.callV (As := [_]) dL_law__2640 mv_L_285 (by first | rfl | exact gC0 (by assumption) | exact gL0 (by assumption)) rfl rfl rfl (Nat.le_of_ble_eq_true rfl) hc (fun E J q => nomatch q.1) (fun v J q => ?_)
  obtain ⟨e1, hF⟩ := q
  cases e1
  refine Rn.aload_n dL_law__2643 rfl rfl ?_
  refine Rn.aload_n dL_law__2644 rfl rfl ?_
  refine Rn.iload dL_law__2645 rfl ?_
  refine Rn.iconst (v := (nI 1)) dL_law__2647 rfl ?_
  refine Rn.iadd dL_law__2648 ?_
  refine Rn.topI (nI 1) (by decide) ?_
  refine Rn.sld dL_law__2649 h9 (by decide) (by decide) rfl ?_
  refine Rn.callV (As := [_]) dL_law__2650 mv_L_288 (by first | rfl | exact gC0 (by assumption) | exact gL0 (by assumption)) rfl rfl rfl (Nat.le_of_ble_eq_true rfl) (hm J hF) (fun E J q => nomatch q) (fun v K q => ?_)
  cases q
  refine Rn.icmp_eq (tgt := 2720) dL_law__2653 (by decide) (fun _ => ?_) (fun h9 => by exfalso; exact h9 rfl)
  exact law_end h9 ad _ _ _ _ _
theorem lcp_undo (h9 : gad G0 998 = b0) (ad : Nat → Nat) (v0 : Int32) (hc : Ct (gw G0 ad) GAM mX9_undo 19 0 [.ref 0] I0 (fun o K => o = .inl (some (.int v0)) ∧ FM K)) (hm : ∀ J : Hi, FM J → Ct (gw G0 ad) GAM mX10_undo 19 0 [.ref 94] J (fun o K => o = .inl (some (.int v0)))) : Rn (gw G0 ad) GAM mL_law_ (kZ (kL b0 6 xs) G0 0 ad 108) 20 400000 2658 [some (.ref 998), some (.ref 0), some (.ref 94), some (.ref 107), some (.int (nI 0)), none, none] [] I0 := by
  refine Rn.aload_n dL_law__2658 rfl rfl ?_
  refine Rn.callV (As := []) dL_law__2659 mv_L_289 (by first | rfl | exact gC0 (by assumption) | exact gL0 (by assumption)) rfl rfl rfl (Nat.le_of_ble_eq_true rfl) hc (fun E J q => nomatch q.1) (fun v J q => ?_)
  obtain ⟨e1, hF⟩ := q
  cases e1
  refine Rn.aload_n dL_law__2662 rfl rfl ?_
  refine Rn.callV (As := []) dL_law__2663 mv_L_293 (by first | rfl | exact gC0 (by assumption) | exact gL0 (by assumption)) rfl rfl rfl (Nat.le_of_ble_eq_true rfl) (hm J hF) (fun E J q => nomatch q) (fun v K q => ?_)
  cases q
  refine Rn.icmp_eq (tgt := 2720) dL_law__2666 (by decide) (fun _ => ?_) (fun h9 => by exfalso; exact h9 rfl)
  exact law_end h9 ad _ _ _ _ _
theorem lcp_image (h9 : gad G0 998 = b0) (ad : Nat → Nat) (hc : Ct (gw G0 ad) GAM mX9_image 19 0 [.ref 0] I0 (fun o K => o = .inl none ∧ FM K)) (hm : ∀ J : Hi, FM J → Ct (gw G0 ad) GAM mX10_image 19 0 [.ref 94] J (fun o K => o = .inl none)) : Rn (gw G0 ad) GAM mL_law_ (kZ (kL b0 6 xs) G0 0 ad 108) 20 400000 2671 [some (.ref 998), some (.ref 0), some (.ref 94), some (.ref 107), some (.int (nI 0)), none, none] [] I0 := by
  refine Rn.aload_n dL_law__2671 rfl rfl ?_
  refine Rn.callV (As := []) dL_law__2672 mv_L_294 (by first | rfl | exact gC0 (by assumption) | exact gL0 (by assumption)) rfl rfl rfl (Nat.le_of_ble_eq_true rfl) hc (fun E J q => nomatch q.1) (fun v J q => ?_)
  obtain ⟨e1, hF⟩ := q
  cases e1
  refine Rn.aload_n dL_law__2675 rfl rfl ?_
  refine Rn.callV (As := []) dL_law__2676 mv_L_297 (by first | rfl | exact gC0 (by assumption) | exact gL0 (by assumption)) rfl rfl rfl (Nat.le_of_ble_eq_true rfl) (hm J hF) (fun E J q => nomatch q) (fun v K q => ?_)
  cases q
  refine Rn.goto 2720 dL_law__2679 (by decide) ?_
  exact law_end h9 ad _ _ _ _ _
theorem lcp_back (h9 : gad G0 998 = b0) (ad : Nat → Nat) (v0 : Int32) (hc : Ct (gw G0 ad) GAM mX9_back 19 0 [.ref 0] I0 (fun o K => o = .inl (some (.int v0)) ∧ FM K)) (hm : ∀ J : Hi, FM J → Ct (gw G0 ad) GAM mX10_back 19 0 [.ref 94] J (fun o K => o = .inl (some (.int v0)))) : Rn (gw G0 ad) GAM mL_law_ (kZ (kL b0 6 xs) G0 0 ad 108) 20 400000 2682 [some (.ref 998), some (.ref 0), some (.ref 94), some (.ref 107), some (.int (nI 0)), none, none] [] I0 := by
  refine Rn.aload_n dL_law__2682 rfl rfl ?_
  refine Rn.callV (As := []) dL_law__2683 mv_L_298 (by first | rfl | exact gC0 (by assumption) | exact gL0 (by assumption)) rfl rfl rfl (Nat.le_of_ble_eq_true rfl) hc (fun E J q => nomatch q.1) (fun v J q => ?_)
  obtain ⟨e1, hF⟩ := q
  cases e1
  refine Rn.aload_n dL_law__2686 rfl rfl ?_
  refine Rn.callV (As := []) dL_law__2687 mv_L_301 (by first | rfl | exact gC0 (by assumption) | exact gL0 (by assumption)) rfl rfl rfl (Nat.le_of_ble_eq_true rfl) (hm J hF) (fun E J q => nomatch q) (fun v K q => ?_)
  cases q
  refine Rn.icmp_eq (tgt := 2720) dL_law__2690 (by decide) (fun _ => ?_) (fun h9 => by exfalso; exact h9 rfl)
  exact law_end h9 ad _ _ _ _ _
theorem lcp_count (h9 : gad G0 998 = b0) (ad : Nat → Nat) (v0 : Int32) (hc : Ct (gw G0 ad) GAM mX9_count 19 0 [.ref 0, .int (xs 1)] I0 (fun o K => o = .inl (some (.int v0)) ∧ FM K)) (hm : ∀ J : Hi, FM J → Ct (gw G0 ad) GAM mX10_count 19 0 [.ref 94, .int (xs 1)] J (fun o K => o = .inl (some (.int v0)))) : Rn (gw G0 ad) GAM mL_law_ (kZ (kL b0 6 xs) G0 0 ad 108) 20 400000 2695 [some (.ref 998), some (.ref 0), some (.ref 94), some (.ref 107), some (.int (nI 0)), none, none] [] I0 := by
  refine Rn.aload_n dL_law__2695 rfl rfl ?_
  refine Rn.aload_n dL_law__2696 rfl rfl ?_
  refine Rn.iload dL_law__2697 rfl ?_
  refine Rn.iconst (v := (nI 1)) dL_law__2699 rfl ?_
  refine Rn.iadd dL_law__2700 ?_
  refine Rn.topI (nI 1) (by decide) ?_
  refine Rn.sld dL_law__2701 h9 (by decide) (by decide) rfl ?_
  refine Rn.callV (As := [_]) dL_law__2702 mv_L_302 (by first | rfl | exact gC0 (by assumption) | exact gL0 (by assumption)) rfl rfl rfl (Nat.le_of_ble_eq_true rfl) hc (fun E J q => nomatch q.1) (fun v J q => ?_)
  obtain ⟨e1, hF⟩ := q
  cases e1
  refine Rn.aload_n dL_law__2705 rfl rfl ?_
  refine Rn.aload_n dL_law__2706 rfl rfl ?_
  refine Rn.iload dL_law__2707 rfl ?_
  refine Rn.iconst (v := (nI 1)) dL_law__2709 rfl ?_
  refine Rn.iadd dL_law__2710 ?_
  refine Rn.topI (nI 1) (by decide) ?_
  refine Rn.sld dL_law__2711 h9 (by decide) (by decide) rfl ?_
  refine Rn.callV (As := [_]) dL_law__2712 mv_L_305 (by first | rfl | exact gC0 (by assumption) | exact gL0 (by assumption)) rfl rfl rfl (Nat.le_of_ble_eq_true rfl) (hm J hF) (fun E J q => nomatch q) (fun v K q => ?_)
  cases q
  refine Rn.icmp_eq (tgt := 2720) dL_law__2715 (by decide) (fun _ => ?_) (fun h9 => by exfalso; exact h9 rfl)
  exact law_end h9 ad _ _ _ _ _
end LawC
