abbrev mX10_things : Ym := (yX10_things, cX10_things, 1, some .int)
theorem dX10_things_0 : decode cX10_things 0 = .ok (.aload_n 0, 1) := by decide +kernel
theorem dX10_things_1 : decode cX10_things 1 = .ok (.getfield 13, 3) := by decide +kernel
theorem dX10_things_4 : decode cX10_things 4 = .ok (.iconst 1, 1) := by decide +kernel
theorem dX10_things_5 : decode cX10_things 5 = .ok (.iaload, 1) := by decide +kernel
theorem dX10_things_6 : decode cX10_things 6 = .ok (.ireturn, 1) := by decide +kernel
abbrev mX10_thingAt : Ym := (yX10_thingAt, cX10_thingAt, 2, some .int)
theorem dX10_thingAt_0 : decode cX10_thingAt 0 = .ok (.bipush 65, 2) := by decide +kernel
theorem dX10_thingAt_2 : decode cX10_thingAt 2 = .ok (.bipush 9, 2) := by decide +kernel
theorem dX10_thingAt_4 : decode cX10_thingAt 4 = .ok (.iload_n 0, 1) := by decide +kernel
theorem dX10_thingAt_5 : decode cX10_thingAt 5 = .ok (.imul, 1) := by decide +kernel
theorem dX10_thingAt_6 : decode cX10_thingAt 6 = .ok (.iadd, 1) := by decide +kernel
theorem dX10_thingAt_7 : decode cX10_thingAt 7 = .ok (.iload_n 1, 1) := by decide +kernel
theorem dX10_thingAt_8 : decode cX10_thingAt 8 = .ok (.iadd, 1) := by decide +kernel
theorem dX10_thingAt_9 : decode cX10_thingAt 9 = .ok (.ireturn, 1) := by decide +kernel
abbrev mX10_ofThing : Ym := (yX10_ofThing, cX10_ofThing, 3, some .int)
theorem dX10_ofThing_0 : decode cX10_ofThing 0 = .ok (.aload_n 0, 1) := by decide +kernel
theorem dX10_ofThing_1 : decode cX10_ofThing 1 = .ok (.getfield 13, 3) := by decide +kernel
theorem dX10_ofThing_4 : decode cX10_ofThing 4 = .ok (.iload_n 1, 1) := by decide +kernel
theorem dX10_ofThing_5 : decode cX10_ofThing 5 = .ok (.iload_n 2, 1) := by decide +kernel
theorem dX10_ofThing_6 : decode cX10_ofThing 6 = .ok (.invokestatic 68, 3) := by decide +kernel
theorem wi_1481 : Cond.methodLink RX10 68 yX10_thingAt ∈ WA := zin 1481 (by decide +kernel) (by decide +kernel)
theorem wi_1483 : Cond.code yX10_thingAt cX10_thingAt 2 (some .int) ∈ WA := zin 1483 (by decide +kernel) (by decide +kernel)
theorem wi_1482 : Cond.static yX10_thingAt ∈ WA := zin 1482 (by decide +kernel) (by decide +kernel)
theorem ms_X10_68 : zMs RX10 68 mX10_thingAt 2 := ⟨⟨wi_1481, wi_110, wi_1483, by decide, by decide +kernel⟩, wi_1482⟩
theorem dX10_ofThing_9 : decode cX10_ofThing 9 = .ok (.iaload, 1) := by decide +kernel
theorem dX10_ofThing_10 : decode cX10_ofThing 10 = .ok (.ireturn, 1) := by decide +kernel
abbrev mX10_isPawned : Ym := (yX10_isPawned, cX10_isPawned, 2, some .boolean)
theorem dX10_isPawned_0 : decode cX10_isPawned 0 = .ok (.aload_n 0, 1) := by decide +kernel
theorem dX10_isPawned_1 : decode cX10_isPawned 1 = .ok (.iload_n 1, 1) := by decide +kernel
theorem dX10_isPawned_2 : decode cX10_isPawned 2 = .ok (.iconst 5, 1) := by decide +kernel
theorem dX10_isPawned_3 : decode cX10_isPawned 3 = .ok (.invokevirtual 71, 3) := by decide +kernel
theorem wi_1565 : Cond.methodLink RX10 71 yX10_ofThing ∈ WA := zin 1565 (by decide +kernel) (by decide +kernel)
theorem wi_1568 : Cond.code yX10_ofThing cX10_ofThing 3 (some .int) ∈ WA := zin 1568 (by decide +kernel) (by decide +kernel)
theorem wi_1567 : Cond.instanceMethod yX10_ofThing ∈ WA := zin 1567 (by decide +kernel) (by decide +kernel)
theorem wi_54 : Cond.selects RX10 yX10_ofThing yX10_ofThing ∈ WA := zin 54 (by decide +kernel) (by decide +kernel)
theorem mv_X10_71 : zMv RX10 71 RX10 mX10_ofThing 2 := ⟨⟨wi_1565, wi_110, wi_1568, by decide, by decide +kernel⟩, wi_1567, wi_54⟩
theorem dX10_isPawned_6 : decode cX10_isPawned 6 = .ok (.iconst (-1), 1) := by decide +kernel
theorem dX10_isPawned_7 : decode cX10_isPawned 7 = .ok (.if_icmp .ne 7, 3) := by decide +kernel
theorem dX10_isPawned_14 : decode cX10_isPawned 14 = .ok (.iconst 0, 1) := by decide +kernel
theorem dX10_isPawned_15 : decode cX10_isPawned 15 = .ok (.ireturn, 1) := by decide +kernel
theorem dX10_isPawned_10 : decode cX10_isPawned 10 = .ok (.iconst 1, 1) := by decide +kernel
theorem dX10_isPawned_11 : decode cX10_isPawned 11 = .ok (.goto 4, 3) := by decide +kernel
abbrev mX10_isStuck : Ym := (yX10_isStuck, cX10_isStuck, 2, some .boolean)
theorem dX10_isStuck_0 : decode cX10_isStuck 0 = .ok (.aload_n 0, 1) := by decide +kernel
theorem dX10_isStuck_1 : decode cX10_isStuck 1 = .ok (.iload_n 1, 1) := by decide +kernel
theorem dX10_isStuck_2 : decode cX10_isStuck 2 = .ok (.bipush 7, 2) := by decide +kernel
theorem dX10_isStuck_4 : decode cX10_isStuck 4 = .ok (.invokevirtual 71, 3) := by decide +kernel
theorem dX10_isStuck_7 : decode cX10_isStuck 7 = .ok (.iconst 1, 1) := by decide +kernel
theorem dX10_isStuck_8 : decode cX10_isStuck 8 = .ok (.if_icmp .ne 7, 3) := by decide +kernel
theorem dX10_isStuck_15 : decode cX10_isStuck 15 = .ok (.iconst 0, 1) := by decide +kernel
theorem dX10_isStuck_16 : decode cX10_isStuck 16 = .ok (.ireturn, 1) := by decide +kernel
theorem dX10_isStuck_11 : decode cX10_isStuck 11 = .ok (.iconst 1, 1) := by decide +kernel
theorem dX10_isStuck_12 : decode cX10_isStuck 12 = .ok (.goto 4, 3) := by decide +kernel
abbrev mX10_isWidow : Ym := (yX10_isWidow, cX10_isWidow, 2, some .boolean)
theorem dX10_isWidow_0 : decode cX10_isWidow 0 = .ok (.aload_n 0, 1) := by decide +kernel
theorem dX10_isWidow_1 : decode cX10_isWidow 1 = .ok (.iload_n 1, 1) := by decide +kernel
theorem dX10_isWidow_2 : decode cX10_isWidow 2 = .ok (.bipush 6, 2) := by decide +kernel
theorem dX10_isWidow_4 : decode cX10_isWidow 4 = .ok (.invokevirtual 65, 3) := by decide +kernel
theorem dX10_isWidow_7 : decode cX10_isWidow 7 = .ok (.iconst 1, 1) := by decide +kernel
theorem dX10_isWidow_8 : decode cX10_isWidow 8 = .ok (.if_icmp .ne 7, 3) := by decide +kernel
theorem dX10_isWidow_15 : decode cX10_isWidow 15 = .ok (.iconst 0, 1) := by decide +kernel
theorem dX10_isWidow_16 : decode cX10_isWidow 16 = .ok (.ireturn, 1) := by decide +kernel
theorem dX10_isWidow_11 : decode cX10_isWidow 11 = .ok (.iconst 1, 1) := by decide +kernel
theorem dX10_isWidow_12 : decode cX10_isWidow 12 = .ok (.goto 4, 3) := by decide +kernel
abbrev mX10_noWoman : Ym := (yX10_noWoman, cX10_noWoman, 2, some .boolean)
theorem dX10_noWoman_0 : decode cX10_noWoman 0 = .ok (.iload_n 1, 1) := by decide +kernel
theorem dX10_noWoman_1 : decode cX10_noWoman 1 = .ok (.iconst 0, 1) := by decide +kernel
theorem dX10_noWoman_2 : decode cX10_noWoman 2 = .ok (.aload_n 0, 1) := by decide +kernel
theorem dX10_noWoman_3 : decode cX10_noWoman 3 = .ok (.invokevirtual 74, 3) := by decide +kernel
theorem wi_1442 : Cond.methodLink RX10 74 yX10_women ∈ WA := zin 1442 (by decide +kernel) (by decide +kernel)
theorem wi_1445 : Cond.code yX10_women cX10_women 1 (some .int) ∈ WA := zin 1445 (by decide +kernel) (by decide +kernel)
theorem wi_1444 : Cond.instanceMethod yX10_women ∈ WA := zin 1444 (by decide +kernel) (by decide +kernel)
theorem wi_33 : Cond.selects RX10 yX10_women yX10_women ∈ WA := zin 33 (by decide +kernel) (by decide +kernel)
theorem mv_X10_74 : zMv RX10 74 RX10 mX10_women 0 := ⟨⟨wi_1442, wi_110, wi_1445, by decide, by decide +kernel⟩, wi_1444, wi_33⟩
theorem dX10_noWoman_6 : decode cX10_noWoman 6 = .ok (.iconst 1, 1) := by decide +kernel
theorem dX10_noWoman_7 : decode cX10_noWoman 7 = .ok (.isub, 1) := by decide +kernel
theorem dX10_noWoman_8 : decode cX10_noWoman 8 = .ok (.invokestatic 78, 3) := by decide +kernel
theorem wi_1558 : Cond.methodLink RX10 78 yX10_in ∈ WA := zin 1558 (by decide +kernel) (by decide +kernel)
theorem wi_1560 : Cond.code yX10_in cX10_in 3 (some .boolean) ∈ WA := zin 1560 (by decide +kernel) (by decide +kernel)
theorem wi_1559 : Cond.static yX10_in ∈ WA := zin 1559 (by decide +kernel) (by decide +kernel)
theorem ms_X10_78 : zMs RX10 78 mX10_in 3 := ⟨⟨wi_1558, wi_110, wi_1560, by decide, by decide +kernel⟩, wi_1559⟩
theorem dX10_noWoman_11 : decode cX10_noWoman 11 = .ok (.ifCond .ne 7, 3) := by decide +kernel
theorem dX10_noWoman_18 : decode cX10_noWoman 18 = .ok (.iconst 0, 1) := by decide +kernel
theorem dX10_noWoman_19 : decode cX10_noWoman 19 = .ok (.ireturn, 1) := by decide +kernel
theorem dX10_noWoman_14 : decode cX10_noWoman 14 = .ok (.iconst 1, 1) := by decide +kernel
theorem dX10_noWoman_15 : decode cX10_noWoman 15 = .ok (.goto 4, 3) := by decide +kernel
abbrev mX10_noThing : Ym := (yX10_noThing, cX10_noThing, 2, some .boolean)
theorem dX10_noThing_0 : decode cX10_noThing 0 = .ok (.iload_n 1, 1) := by decide +kernel
theorem dX10_noThing_1 : decode cX10_noThing 1 = .ok (.iconst 0, 1) := by decide +kernel
theorem dX10_noThing_2 : decode cX10_noThing 2 = .ok (.aload_n 0, 1) := by decide +kernel
theorem dX10_noThing_3 : decode cX10_noThing 3 = .ok (.invokevirtual 82, 3) := by decide +kernel
theorem wi_1477 : Cond.methodLink RX10 82 yX10_things ∈ WA := zin 1477 (by decide +kernel) (by decide +kernel)
theorem wi_1480 : Cond.code yX10_things cX10_things 1 (some .int) ∈ WA := zin 1480 (by decide +kernel) (by decide +kernel)
theorem wi_1479 : Cond.instanceMethod yX10_things ∈ WA := zin 1479 (by decide +kernel) (by decide +kernel)
theorem wi_40 : Cond.selects RX10 yX10_things yX10_things ∈ WA := zin 40 (by decide +kernel) (by decide +kernel)
theorem mv_X10_82 : zMv RX10 82 RX10 mX10_things 0 := ⟨⟨wi_1477, wi_110, wi_1480, by decide, by decide +kernel⟩, wi_1479, wi_40⟩
theorem dX10_noThing_6 : decode cX10_noThing 6 = .ok (.iconst 1, 1) := by decide +kernel
theorem dX10_noThing_7 : decode cX10_noThing 7 = .ok (.isub, 1) := by decide +kernel
theorem dX10_noThing_8 : decode cX10_noThing 8 = .ok (.invokestatic 78, 3) := by decide +kernel
theorem dX10_noThing_11 : decode cX10_noThing 11 = .ok (.ifCond .ne 7, 3) := by decide +kernel
theorem dX10_noThing_18 : decode cX10_noThing 18 = .ok (.iconst 0, 1) := by decide +kernel
theorem dX10_noThing_19 : decode cX10_noThing 19 = .ok (.ireturn, 1) := by decide +kernel
theorem dX10_noThing_14 : decode cX10_noThing 14 = .ok (.iconst 1, 1) := by decide +kernel
theorem dX10_noThing_15 : decode cX10_noThing 15 = .ok (.goto 4, 3) := by decide +kernel
abbrev mX10_noSort : Ym := (yX10_noSort, cX10_noSort, 1, some .boolean)
theorem dX10_noSort_0 : decode cX10_noSort 0 = .ok (.iload_n 0, 1) := by decide +kernel
theorem dX10_noSort_1 : decode cX10_noSort 1 = .ok (.iconst 0, 1) := by decide +kernel
theorem dX10_noSort_2 : decode cX10_noSort 2 = .ok (.iconst 3, 1) := by decide +kernel
theorem dX10_noSort_3 : decode cX10_noSort 3 = .ok (.invokestatic 78, 3) := by decide +kernel
theorem dX10_noSort_6 : decode cX10_noSort 6 = .ok (.ifCond .ne 7, 3) := by decide +kernel
theorem dX10_noSort_13 : decode cX10_noSort 13 = .ok (.iconst 0, 1) := by decide +kernel
theorem dX10_noSort_14 : decode cX10_noSort 14 = .ok (.ireturn, 1) := by decide +kernel
theorem dX10_noSort_9 : decode cX10_noSort 9 = .ok (.iconst 1, 1) := by decide +kernel
theorem dX10_noSort_10 : decode cX10_noSort 10 = .ok (.goto 4, 3) := by decide +kernel
abbrev mX10_drawn : Ym := (yX10_drawn, cX10_drawn, 2, some .int)
theorem dX10_drawn_0 : decode cX10_drawn 0 = .ok (.aload_n 0, 1) := by decide +kernel
theorem dX10_drawn_1 : decode cX10_drawn 1 = .ok (.getfield 13, 3) := by decide +kernel
theorem dX10_drawn_4 : decode cX10_drawn 4 = .ok (.bipush 8, 2) := by decide +kernel
theorem dX10_drawn_6 : decode cX10_drawn 6 = .ok (.ldc 85, 2) := by decide +kernel
theorem wi_1706 : Cond.constant RX10 85 (1103515245) ∈ WA := zin 1706 (by decide +kernel) (by decide +kernel)
theorem kc_X10_85 : Cond.constant RX10 85 (1103515245) ∈ WA := wi_1706
theorem dX10_drawn_8 : decode cX10_drawn 8 = .ok (.aload_n 0, 1) := by decide +kernel
theorem dX10_drawn_9 : decode cX10_drawn 9 = .ok (.getfield 13, 3) := by decide +kernel
theorem dX10_drawn_12 : decode cX10_drawn 12 = .ok (.bipush 8, 2) := by decide +kernel
theorem dX10_drawn_14 : decode cX10_drawn 14 = .ok (.iaload, 1) := by decide +kernel
theorem dX10_drawn_15 : decode cX10_drawn 15 = .ok (.imul, 1) := by decide +kernel
theorem dX10_drawn_16 : decode cX10_drawn 16 = .ok (.sipush 12345, 3) := by decide +kernel
theorem dX10_drawn_19 : decode cX10_drawn 19 = .ok (.iadd, 1) := by decide +kernel
theorem dX10_drawn_20 : decode cX10_drawn 20 = .ok (.iastore, 1) := by decide +kernel
theorem dX10_drawn_21 : decode cX10_drawn 21 = .ok (.aload_n 0, 1) := by decide +kernel
theorem dX10_drawn_22 : decode cX10_drawn 22 = .ok (.getfield 13, 3) := by decide +kernel
theorem dX10_drawn_25 : decode cX10_drawn 25 = .ok (.bipush 8, 2) := by decide +kernel
theorem dX10_drawn_27 : decode cX10_drawn 27 = .ok (.iaload, 1) := by decide +kernel
theorem dX10_drawn_28 : decode cX10_drawn 28 = .ok (.bipush 16, 2) := by decide +kernel
theorem dX10_drawn_30 : decode cX10_drawn 30 = .ok (.ishr, 1) := by decide +kernel
theorem dX10_drawn_31 : decode cX10_drawn 31 = .ok (.sipush 32767, 3) := by decide +kernel
theorem dX10_drawn_34 : decode cX10_drawn 34 = .ok (.iand, 1) := by decide +kernel
theorem dX10_drawn_35 : decode cX10_drawn 35 = .ok (.iload_n 1, 1) := by decide +kernel
theorem dX10_drawn_36 : decode cX10_drawn 36 = .ok (.irem, 1) := by decide +kernel
theorem dX10_drawn_37 : decode cX10_drawn 37 = .ok (.ireturn, 1) := by decide +kernel
abbrev mX10_end : Ym := (yX10_end, cX10_end, 2, some .boolean)
theorem dX10_end_0 : decode cX10_end 0 = .ok (.aload_n 0, 1) := by decide +kernel
theorem dX10_end_1 : decode cX10_end 1 = .ok (.iconst 0, 1) := by decide +kernel
theorem dX10_end_2 : decode cX10_end 2 = .ok (.putfield 3, 3) := by decide +kernel
theorem dX10_end_5 : decode cX10_end 5 = .ok (.iload_n 1, 1) := by decide +kernel
theorem dX10_end_6 : decode cX10_end 6 = .ok (.ifCond .lt 11, 3) := by decide +kernel
theorem dX10_end_17 : decode cX10_end 17 = .ok (.iconst 0, 1) := by decide +kernel
theorem dX10_end_18 : decode cX10_end 18 = .ok (.ireturn, 1) := by decide +kernel
theorem dX10_end_9 : decode cX10_end 9 = .ok (.iload_n 1, 1) := by decide +kernel
theorem dX10_end_10 : decode cX10_end 10 = .ok (.aload_n 0, 1) := by decide +kernel
theorem dX10_end_11 : decode cX10_end 11 = .ok (.getfield 86, 3) := by decide +kernel
theorem wi_1268 : Cond.fieldLink RX10 86 "BorrowedLuckModel" "taped" "I" ∈ WA := zin 1268 (by decide +kernel) (by decide +kernel)
theorem fd_X10_86_9 : zFd RX10 86 9 9 := ⟨RX10, TX10, 23, "BorrowedLuckModel", rfl, by decide, uw_X10, Or.inl rfl, Or.inl wi_1268⟩
theorem dX10_end_14 : decode cX10_end 14 = .ok (.if_icmp .le 5, 3) := by decide +kernel
theorem dX10_end_19 : decode cX10_end 19 = .ok (.aload_n 0, 1) := by decide +kernel
theorem dX10_end_20 : decode cX10_end 20 = .ok (.iload_n 1, 1) := by decide +kernel
theorem dX10_end_21 : decode cX10_end 21 = .ok (.putfield 86, 3) := by decide +kernel
theorem fp_X10_86_9 : zFp RX10 86 9 9 .int := ⟨RX10, TX10, 23, "BorrowedLuckModel", tyX10, rfl, by decide, uw_X10, Or.inl rfl, Or.inl wi_1268, tyX10_ok, nmX10, rfl, by decide +kernel⟩
theorem dX10_end_24 : decode cX10_end 24 = .ok (.iconst 1, 1) := by decide +kernel
theorem dX10_end_25 : decode cX10_end 25 = .ok (.ireturn, 1) := by decide +kernel
abbrev mX10_uses : Ym := (yX10_uses, cX10_uses, 1, none)
theorem dX10_uses_0 : decode cX10_uses 0 = .ok (.aload_n 0, 1) := by decide +kernel
theorem dX10_uses_1 : decode cX10_uses 1 = .ok (.iconst 0, 1) := by decide +kernel
theorem dX10_uses_2 : decode cX10_uses 2 = .ok (.putfield 3, 3) := by decide +kernel
theorem dX10_uses_5 : decode cX10_uses 5 = .ok (.aload_n 0, 1) := by decide +kernel
theorem dX10_uses_6 : decode cX10_uses 6 = .ok (.aload_n 0, 1) := by decide +kernel
theorem dX10_uses_7 : decode cX10_uses 7 = .ok (.getfield 86, 3) := by decide +kernel
theorem dX10_uses_10 : decode cX10_uses 10 = .ok (.putfield 92, 3) := by decide +kernel
theorem wi_1270 : Cond.fieldLink RX10 92 "BorrowedLuckModel" "end" "I" ∈ WA := zin 1270 (by decide +kernel) (by decide +kernel)
theorem fp_X10_92_9 : zFp RX10 92 9 11 .int := ⟨RX10, TX10, 23, "BorrowedLuckModel", tyX10, rfl, by decide, uw_X10, Or.inl rfl, Or.inl wi_1270, tyX10_ok, nmX10, rfl, by decide +kernel⟩
theorem dX10_uses_13 : decode cX10_uses 13 = .ok (.aload_n 0, 1) := by decide +kernel
theorem dX10_uses_14 : decode cX10_uses 14 = .ok (.iconst 0, 1) := by decide +kernel
theorem dX10_uses_15 : decode cX10_uses 15 = .ok (.putfield 86, 3) := by decide +kernel
theorem dX10_uses_18 : decode cX10_uses 18 = .ok (.aload_n 0, 1) := by decide +kernel
theorem dX10_uses_19 : decode cX10_uses 19 = .ok (.iconst 0, 1) := by decide +kernel
theorem dX10_uses_20 : decode cX10_uses 20 = .ok (.putfield 89, 3) := by decide +kernel
theorem wi_1269 : Cond.fieldLink RX10 89 "BorrowedLuckModel" "point" "I" ∈ WA := zin 1269 (by decide +kernel) (by decide +kernel)
theorem fp_X10_89_9 : zFp RX10 89 9 10 .int := ⟨RX10, TX10, 23, "BorrowedLuckModel", tyX10, rfl, by decide, uw_X10, Or.inl rfl, Or.inl wi_1269, tyX10_ok, nmX10, rfl, by decide +kernel⟩
theorem dX10_uses_23 : decode cX10_uses 23 = .ok (.return_, 1) := by decide +kernel
abbrev mX10_fault : Ym := (yX10_fault, cX10_fault, 1, some .int)
theorem dX10_fault_0 : decode cX10_fault 0 = .ok (.aload_n 0, 1) := by decide +kernel
theorem dX10_fault_1 : decode cX10_fault 1 = .ok (.iconst 0, 1) := by decide +kernel
theorem dX10_fault_2 : decode cX10_fault 2 = .ok (.putfield 3, 3) := by decide +kernel
theorem dX10_fault_5 : decode cX10_fault 5 = .ok (.aload_n 0, 1) := by decide +kernel
theorem dX10_fault_6 : decode cX10_fault 6 = .ok (.getfield 33, 3) := by decide +kernel
theorem wi_1273 : Cond.fieldLink RX10 33 "BorrowedLuckModel" "faultAt" "I" ∈ WA := zin 1273 (by decide +kernel) (by decide +kernel)
theorem fd_X10_33_9 : zFd RX10 33 9 14 := ⟨RX10, TX10, 23, "BorrowedLuckModel", rfl, by decide, uw_X10, Or.inl rfl, Or.inl wi_1273⟩
theorem dX10_fault_9 : decode cX10_fault 9 = .ok (.ireturn, 1) := by decide +kernel
abbrev mX10_image : Ym := (yX10_image, cX10_image, 2, none)
theorem dX10_image_7 : decode cX10_image 7 = .ok (.iload_n 1, 1) := by decide +kernel
theorem dX10_image_8 : decode cX10_image 8 = .ok (.sipush 1226, 3) := by decide +kernel
theorem dX10_image_11 : decode cX10_image 11 = .ok (.if_icmp .ge 21, 3) := by decide +kernel
theorem dX10_image_14 : decode cX10_image 14 = .ok (.aload_n 0, 1) := by decide +kernel
theorem dX10_image_15 : decode cX10_image 15 = .ok (.getfield 17, 3) := by decide +kernel
theorem wi_1261 : Cond.fieldLink RX10 17 "BorrowedLuckModel" "image" "[I" ∈ WA := zin 1261 (by decide +kernel) (by decide +kernel)
theorem fd_X10_17_9 : zFd RX10 17 9 2 := ⟨RX10, TX10, 23, "BorrowedLuckModel", rfl, by decide, uw_X10, Or.inl rfl, Or.inl wi_1261⟩
theorem dX10_image_18 : decode cX10_image 18 = .ok (.iload_n 1, 1) := by decide +kernel
theorem dX10_image_19 : decode cX10_image 19 = .ok (.aload_n 0, 1) := by decide +kernel
theorem dX10_image_20 : decode cX10_image 20 = .ok (.getfield 13, 3) := by decide +kernel
theorem dX10_image_23 : decode cX10_image 23 = .ok (.iload_n 1, 1) := by decide +kernel
theorem dX10_image_24 : decode cX10_image 24 = .ok (.iaload, 1) := by decide +kernel
theorem dX10_image_25 : decode cX10_image 25 = .ok (.iastore, 1) := by decide +kernel
theorem dX10_image_26 : decode cX10_image 26 = .ok (.iinc 1 1, 3) := by decide +kernel
theorem dX10_image_29 : decode cX10_image 29 = .ok (.goto (-22), 3) := by decide +kernel
theorem dX10_image_0 : decode cX10_image 0 = .ok (.aload_n 0, 1) := by decide +kernel
theorem dX10_image_1 : decode cX10_image 1 = .ok (.iconst 0, 1) := by decide +kernel
theorem dX10_image_2 : decode cX10_image 2 = .ok (.putfield 3, 3) := by decide +kernel
theorem dX10_image_5 : decode cX10_image 5 = .ok (.iconst 0, 1) := by decide +kernel
theorem dX10_image_6 : decode cX10_image 6 = .ok (.istore_n 1, 1) := by decide +kernel
theorem dX10_image_32 : decode cX10_image 32 = .ok (.aload_n 0, 1) := by decide +kernel
theorem dX10_image_33 : decode cX10_image 33 = .ok (.iconst 1, 1) := by decide +kernel
theorem dX10_image_34 : decode cX10_image 34 = .ok (.putfield 54, 3) := by decide +kernel
theorem wi_1265 : Cond.fieldLink RX10 54 "BorrowedLuckModel" "hasImage" "Z" ∈ WA := zin 1265 (by decide +kernel) (by decide +kernel)
theorem fp_X10_54_9 : zFp RX10 54 9 6 .boolean := ⟨RX10, TX10, 23, "BorrowedLuckModel", tyX10, rfl, by decide, uw_X10, Or.inl rfl, Or.inl wi_1265, tyX10_ok, nmX10, rfl, by decide +kernel⟩
theorem dX10_image_37 : decode cX10_image 37 = .ok (.return_, 1) := by decide +kernel
abbrev mX10_back : Ym := (yX10_back, cX10_back, 2, some .boolean)
theorem dX10_back_16 : decode cX10_back 16 = .ok (.iload_n 1, 1) := by decide +kernel
theorem dX10_back_17 : decode cX10_back 17 = .ok (.sipush 1226, 3) := by decide +kernel
theorem dX10_back_20 : decode cX10_back 20 = .ok (.if_icmp .ge 21, 3) := by decide +kernel
theorem dX10_back_23 : decode cX10_back 23 = .ok (.aload_n 0, 1) := by decide +kernel
theorem dX10_back_24 : decode cX10_back 24 = .ok (.getfield 13, 3) := by decide +kernel
theorem dX10_back_27 : decode cX10_back 27 = .ok (.iload_n 1, 1) := by decide +kernel
theorem dX10_back_28 : decode cX10_back 28 = .ok (.aload_n 0, 1) := by decide +kernel
theorem dX10_back_29 : decode cX10_back 29 = .ok (.getfield 17, 3) := by decide +kernel
theorem dX10_back_32 : decode cX10_back 32 = .ok (.iload_n 1, 1) := by decide +kernel
theorem dX10_back_33 : decode cX10_back 33 = .ok (.iaload, 1) := by decide +kernel
theorem dX10_back_34 : decode cX10_back 34 = .ok (.iastore, 1) := by decide +kernel
theorem dX10_back_35 : decode cX10_back 35 = .ok (.iinc 1 1, 3) := by decide +kernel
theorem dX10_back_38 : decode cX10_back 38 = .ok (.goto (-22), 3) := by decide +kernel
theorem dX10_back_0 : decode cX10_back 0 = .ok (.aload_n 0, 1) := by decide +kernel
theorem dX10_back_1 : decode cX10_back 1 = .ok (.iconst 0, 1) := by decide +kernel
theorem dX10_back_2 : decode cX10_back 2 = .ok (.putfield 3, 3) := by decide +kernel
theorem dX10_back_5 : decode cX10_back 5 = .ok (.aload_n 0, 1) := by decide +kernel
theorem dX10_back_6 : decode cX10_back 6 = .ok (.getfield 54, 3) := by decide +kernel
theorem fd_X10_54_9 : zFd RX10 54 9 6 := ⟨RX10, TX10, 23, "BorrowedLuckModel", rfl, by decide, uw_X10, Or.inl rfl, Or.inl wi_1265⟩
theorem dX10_back_9 : decode cX10_back 9 = .ok (.ifCond .ne 5, 3) := by decide +kernel
theorem dX10_back_14 : decode cX10_back 14 = .ok (.iconst 0, 1) := by decide +kernel
theorem dX10_back_15 : decode cX10_back 15 = .ok (.istore_n 1, 1) := by decide +kernel
theorem dX10_back_41 : decode cX10_back 41 = .ok (.aload_n 0, 1) := by decide +kernel
theorem dX10_back_42 : decode cX10_back 42 = .ok (.iconst 0, 1) := by decide +kernel
theorem dX10_back_43 : decode cX10_back 43 = .ok (.putfield 58, 3) := by decide +kernel
theorem wi_1266 : Cond.fieldLink RX10 58 "BorrowedLuckModel" "remembered" "I" ∈ WA := zin 1266 (by decide +kernel) (by decide +kernel)
theorem fp_X10_58_9 : zFp RX10 58 9 7 .int := ⟨RX10, TX10, 23, "BorrowedLuckModel", tyX10, rfl, by decide, uw_X10, Or.inl rfl, Or.inl wi_1266, tyX10_ok, nmX10, rfl, by decide +kernel⟩
theorem dX10_back_46 : decode cX10_back 46 = .ok (.iconst 1, 1) := by decide +kernel
theorem dX10_back_47 : decode cX10_back 47 = .ok (.ireturn, 1) := by decide +kernel
theorem dX10_back_12 : decode cX10_back 12 = .ok (.iconst 0, 1) := by decide +kernel
theorem dX10_back_13 : decode cX10_back 13 = .ok (.ireturn, 1) := by decide +kernel
abbrev mX10_keepsAll : Ym := (yX10_keepsAll, cX10_keepsAll, 2, none)
theorem dX10_keepsAll_2 : decode cX10_keepsAll 2 = .ok (.iload_n 1, 1) := by decide +kernel
theorem dX10_keepsAll_3 : decode cX10_keepsAll 3 = .ok (.sipush 377, 3) := by decide +kernel
theorem dX10_keepsAll_6 : decode cX10_keepsAll 6 = .ok (.if_icmp .ge 21, 3) := by decide +kernel
theorem dX10_keepsAll_9 : decode cX10_keepsAll 9 = .ok (.aload_n 0, 1) := by decide +kernel
theorem dX10_keepsAll_10 : decode cX10_keepsAll 10 = .ok (.getfield 23, 3) := by decide +kernel
theorem wi_1263 : Cond.fieldLink RX10 23 "BorrowedLuckModel" "trial" "[I" ∈ WA := zin 1263 (by decide +kernel) (by decide +kernel)
theorem fd_X10_23_9 : zFd RX10 23 9 4 := ⟨RX10, TX10, 23, "BorrowedLuckModel", rfl, by decide, uw_X10, Or.inl rfl, Or.inl wi_1263⟩
theorem dX10_keepsAll_13 : decode cX10_keepsAll 13 = .ok (.iload_n 1, 1) := by decide +kernel
theorem dX10_keepsAll_14 : decode cX10_keepsAll 14 = .ok (.aload_n 0, 1) := by decide +kernel
theorem dX10_keepsAll_15 : decode cX10_keepsAll 15 = .ok (.getfield 13, 3) := by decide +kernel
theorem dX10_keepsAll_18 : decode cX10_keepsAll 18 = .ok (.iload_n 1, 1) := by decide +kernel
theorem dX10_keepsAll_19 : decode cX10_keepsAll 19 = .ok (.iaload, 1) := by decide +kernel
theorem dX10_keepsAll_20 : decode cX10_keepsAll 20 = .ok (.iastore, 1) := by decide +kernel
theorem dX10_keepsAll_21 : decode cX10_keepsAll 21 = .ok (.iinc 1 1, 3) := by decide +kernel
theorem dX10_keepsAll_24 : decode cX10_keepsAll 24 = .ok (.goto (-22), 3) := by decide +kernel
theorem dX10_keepsAll_0 : decode cX10_keepsAll 0 = .ok (.iconst 0, 1) := by decide +kernel
theorem dX10_keepsAll_1 : decode cX10_keepsAll 1 = .ok (.istore_n 1, 1) := by decide +kernel
theorem dX10_keepsAll_27 : decode cX10_keepsAll 27 = .ok (.return_, 1) := by decide +kernel
abbrev mX10_bringsBack : Ym := (yX10_bringsBack, cX10_bringsBack, 2, none)
theorem dX10_bringsBack_2 : decode cX10_bringsBack 2 = .ok (.iload_n 1, 1) := by decide +kernel
theorem dX10_bringsBack_3 : decode cX10_bringsBack 3 = .ok (.sipush 377, 3) := by decide +kernel
theorem dX10_bringsBack_6 : decode cX10_bringsBack 6 = .ok (.if_icmp .ge 21, 3) := by decide +kernel
theorem dX10_bringsBack_9 : decode cX10_bringsBack 9 = .ok (.aload_n 0, 1) := by decide +kernel
theorem dX10_bringsBack_10 : decode cX10_bringsBack 10 = .ok (.getfield 13, 3) := by decide +kernel
theorem dX10_bringsBack_13 : decode cX10_bringsBack 13 = .ok (.iload_n 1, 1) := by decide +kernel
theorem dX10_bringsBack_14 : decode cX10_bringsBack 14 = .ok (.aload_n 0, 1) := by decide +kernel
theorem dX10_bringsBack_15 : decode cX10_bringsBack 15 = .ok (.getfield 23, 3) := by decide +kernel
theorem dX10_bringsBack_18 : decode cX10_bringsBack 18 = .ok (.iload_n 1, 1) := by decide +kernel
theorem dX10_bringsBack_19 : decode cX10_bringsBack 19 = .ok (.iaload, 1) := by decide +kernel
theorem dX10_bringsBack_20 : decode cX10_bringsBack 20 = .ok (.iastore, 1) := by decide +kernel
theorem dX10_bringsBack_21 : decode cX10_bringsBack 21 = .ok (.iinc 1 1, 3) := by decide +kernel
theorem dX10_bringsBack_24 : decode cX10_bringsBack 24 = .ok (.goto (-22), 3) := by decide +kernel
theorem dX10_bringsBack_0 : decode cX10_bringsBack 0 = .ok (.iconst 0, 1) := by decide +kernel
theorem dX10_bringsBack_1 : decode cX10_bringsBack 1 = .ok (.istore_n 1, 1) := by decide +kernel
theorem dX10_bringsBack_27 : decode cX10_bringsBack 27 = .ok (.return_, 1) := by decide +kernel
abbrev mX10_luckIn : Ym := (yX10_luckIn, cX10_luckIn, 4, some .int)
theorem dX10_luckIn_0 : decode cX10_luckIn 0 = .ok (.iconst 0, 1) := by decide +kernel
theorem dX10_luckIn_1 : decode cX10_luckIn 1 = .ok (.istore_n 2, 1) := by decide +kernel
theorem dX10_luckIn_2 : decode cX10_luckIn 2 = .ok (.iconst 0, 1) := by decide +kernel
theorem dX10_luckIn_3 : decode cX10_luckIn 3 = .ok (.istore_n 3, 1) := by decide +kernel
theorem dX10_luckIn_4 : decode cX10_luckIn 4 = .ok (.iload_n 3, 1) := by decide +kernel
theorem dX10_luckIn_5 : decode cX10_luckIn 5 = .ok (.iconst 4, 1) := by decide +kernel
theorem dX10_luckIn_6 : decode cX10_luckIn 6 = .ok (.if_icmp .ge 18, 3) := by decide +kernel
theorem dX10_luckIn_9 : decode cX10_luckIn 9 = .ok (.iload_n 2, 1) := by decide +kernel
theorem dX10_luckIn_10 : decode cX10_luckIn 10 = .ok (.aload_n 0, 1) := by decide +kernel
theorem dX10_luckIn_11 : decode cX10_luckIn 11 = .ok (.iload_n 1, 1) := by decide +kernel
theorem dX10_luckIn_12 : decode cX10_luckIn 12 = .ok (.iload_n 3, 1) := by decide +kernel
theorem dX10_luckIn_13 : decode cX10_luckIn 13 = .ok (.invokevirtual 71, 3) := by decide +kernel
theorem dX10_luckIn_16 : decode cX10_luckIn 16 = .ok (.iadd, 1) := by decide +kernel
theorem dX10_luckIn_17 : decode cX10_luckIn 17 = .ok (.istore_n 2, 1) := by decide +kernel
theorem dX10_luckIn_18 : decode cX10_luckIn 18 = .ok (.iinc 3 1, 3) := by decide +kernel
theorem dX10_luckIn_21 : decode cX10_luckIn 21 = .ok (.goto (-17), 3) := by decide +kernel
theorem dX10_luckIn_24 : decode cX10_luckIn 24 = .ok (.iload_n 2, 1) := by decide +kernel
theorem dX10_luckIn_25 : decode cX10_luckIn 25 = .ok (.ireturn, 1) := by decide +kernel
abbrev mX10_worthOf : Ym := (yX10_worthOf, cX10_worthOf, 2, some .int)
theorem dX10_worthOf_0 : decode cX10_worthOf 0 = .ok (.aload_n 0, 1) := by decide +kernel
theorem dX10_worthOf_1 : decode cX10_worthOf 1 = .ok (.iload_n 1, 1) := by decide +kernel
theorem dX10_worthOf_2 : decode cX10_worthOf 2 = .ok (.invokevirtual 272, 3) := by decide +kernel
theorem wi_1589 : Cond.methodLink RX10 272 yX10_luckIn ∈ WA := zin 1589 (by decide +kernel) (by decide +kernel)
theorem wi_1592 : Cond.code yX10_luckIn cX10_luckIn 4 (some .int) ∈ WA := zin 1592 (by decide +kernel) (by decide +kernel)
theorem wi_1591 : Cond.instanceMethod yX10_luckIn ∈ WA := zin 1591 (by decide +kernel) (by decide +kernel)
theorem wi_59 : Cond.selects RX10 yX10_luckIn yX10_luckIn ∈ WA := zin 59 (by decide +kernel) (by decide +kernel)
theorem mv_X10_272 : zMv RX10 272 RX10 mX10_luckIn 1 := ⟨⟨wi_1589, wi_110, wi_1592, by decide, by decide +kernel⟩, wi_1591, wi_59⟩
theorem dX10_worthOf_5 : decode cX10_worthOf 5 = .ok (.aload_n 0, 1) := by decide +kernel
theorem dX10_worthOf_6 : decode cX10_worthOf 6 = .ok (.iload_n 1, 1) := by decide +kernel
theorem dX10_worthOf_7 : decode cX10_worthOf 7 = .ok (.bipush 6, 2) := by decide +kernel
theorem dX10_worthOf_9 : decode cX10_worthOf 9 = .ok (.invokevirtual 71, 3) := by decide +kernel
theorem dX10_worthOf_12 : decode cX10_worthOf 12 = .ok (.isub, 1) := by decide +kernel
theorem dX10_worthOf_13 : decode cX10_worthOf 13 = .ok (.ireturn, 1) := by decide +kernel
abbrev mX10_ofLog : Ym := (yX10_ofLog, cX10_ofLog, 3, some .int)
theorem dX10_ofLog_0 : decode cX10_ofLog 0 = .ok (.aload_n 0, 1) := by decide +kernel
theorem dX10_ofLog_1 : decode cX10_ofLog 1 = .ok (.getfield 13, 3) := by decide +kernel
theorem dX10_ofLog_4 : decode cX10_ofLog 4 = .ok (.sipush 137, 3) := by decide +kernel
theorem dX10_ofLog_7 : decode cX10_ofLog 7 = .ok (.iconst 4, 1) := by decide +kernel
theorem dX10_ofLog_8 : decode cX10_ofLog 8 = .ok (.iload_n 1, 1) := by decide +kernel
theorem dX10_ofLog_9 : decode cX10_ofLog 9 = .ok (.imul, 1) := by decide +kernel
theorem dX10_ofLog_10 : decode cX10_ofLog 10 = .ok (.iadd, 1) := by decide +kernel
theorem dX10_ofLog_11 : decode cX10_ofLog 11 = .ok (.iload_n 2, 1) := by decide +kernel
theorem dX10_ofLog_12 : decode cX10_ofLog 12 = .ok (.iadd, 1) := by decide +kernel
theorem dX10_ofLog_13 : decode cX10_ofLog 13 = .ok (.iaload, 1) := by decide +kernel
theorem dX10_ofLog_14 : decode cX10_ofLog 14 = .ok (.ireturn, 1) := by decide +kernel
abbrev mX10_has : Ym := (yX10_has, cX10_has, 2, some .boolean)
theorem dX10_has_0 : decode cX10_has 0 = .ok (.iload_n 0, 1) := by decide +kernel
theorem dX10_has_1 : decode cX10_has 1 = .ok (.iload_n 1, 1) := by decide +kernel
theorem dX10_has_2 : decode cX10_has 2 = .ok (.ishr, 1) := by decide +kernel
theorem dX10_has_3 : decode cX10_has 3 = .ok (.iconst 1, 1) := by decide +kernel
theorem dX10_has_4 : decode cX10_has 4 = .ok (.iand, 1) := by decide +kernel
theorem dX10_has_5 : decode cX10_has 5 = .ok (.iconst 1, 1) := by decide +kernel
theorem dX10_has_6 : decode cX10_has 6 = .ok (.if_icmp .ne 7, 3) := by decide +kernel
theorem dX10_has_13 : decode cX10_has 13 = .ok (.iconst 0, 1) := by decide +kernel
theorem dX10_has_14 : decode cX10_has 14 = .ok (.ireturn, 1) := by decide +kernel
theorem dX10_has_9 : decode cX10_has 9 = .ok (.iconst 1, 1) := by decide +kernel
theorem dX10_has_10 : decode cX10_has 10 = .ok (.goto 4, 3) := by decide +kernel
abbrev mX10_allWomen : Ym := (yX10_allWomen, cX10_allWomen, 1, some .int)
theorem dX10_allWomen_0 : decode cX10_allWomen 0 = .ok (.iconst 1, 1) := by decide +kernel
theorem dX10_allWomen_1 : decode cX10_allWomen 1 = .ok (.aload_n 0, 1) := by decide +kernel
theorem dX10_allWomen_2 : decode cX10_allWomen 2 = .ok (.invokevirtual 74, 3) := by decide +kernel
theorem dX10_allWomen_5 : decode cX10_allWomen 5 = .ok (.ishl, 1) := by decide +kernel
theorem dX10_allWomen_6 : decode cX10_allWomen 6 = .ok (.iconst 1, 1) := by decide +kernel
theorem dX10_allWomen_7 : decode cX10_allWomen 7 = .ok (.isub, 1) := by decide +kernel
theorem dX10_allWomen_8 : decode cX10_allWomen 8 = .ok (.ireturn, 1) := by decide +kernel
abbrev mX10_luckOfAll : Ym := (yX10_luckOfAll, cX10_luckOfAll, 3, some .int)
theorem dX10_luckOfAll_4 : decode cX10_luckOfAll 4 = .ok (.iload_n 2, 1) := by decide +kernel
theorem dX10_luckOfAll_5 : decode cX10_luckOfAll 5 = .ok (.aload_n 0, 1) := by decide +kernel
theorem dX10_luckOfAll_6 : decode cX10_luckOfAll 6 = .ok (.invokevirtual 74, 3) := by decide +kernel
theorem dX10_luckOfAll_9 : decode cX10_luckOfAll 9 = .ok (.if_icmp .ge 17, 3) := by decide +kernel
theorem dX10_luckOfAll_12 : decode cX10_luckOfAll 12 = .ok (.iload_n 1, 1) := by decide +kernel
theorem dX10_luckOfAll_13 : decode cX10_luckOfAll 13 = .ok (.aload_n 0, 1) := by decide +kernel
theorem dX10_luckOfAll_14 : decode cX10_luckOfAll 14 = .ok (.iload_n 2, 1) := by decide +kernel
theorem dX10_luckOfAll_15 : decode cX10_luckOfAll 15 = .ok (.invokevirtual 281, 3) := by decide +kernel
theorem wi_1569 : Cond.methodLink RX10 281 yX10_luckOf ∈ WA := zin 1569 (by decide +kernel) (by decide +kernel)
theorem wi_1572 : Cond.code yX10_luckOf cX10_luckOf 4 (some .int) ∈ WA := zin 1572 (by decide +kernel) (by decide +kernel)
theorem wi_1571 : Cond.instanceMethod yX10_luckOf ∈ WA := zin 1571 (by decide +kernel) (by decide +kernel)
theorem wi_55 : Cond.selects RX10 yX10_luckOf yX10_luckOf ∈ WA := zin 55 (by decide +kernel) (by decide +kernel)
theorem mv_X10_281 : zMv RX10 281 RX10 mX10_luckOf 1 := ⟨⟨wi_1569, wi_110, wi_1572, by decide, by decide +kernel⟩, wi_1571, wi_55⟩
theorem dX10_luckOfAll_18 : decode cX10_luckOfAll 18 = .ok (.iadd, 1) := by decide +kernel
theorem dX10_luckOfAll_19 : decode cX10_luckOfAll 19 = .ok (.istore_n 1, 1) := by decide +kernel
theorem dX10_luckOfAll_20 : decode cX10_luckOfAll 20 = .ok (.iinc 2 1, 3) := by decide +kernel
theorem dX10_luckOfAll_23 : decode cX10_luckOfAll 23 = .ok (.goto (-19), 3) := by decide +kernel
theorem dX10_luckOfAll_0 : decode cX10_luckOfAll 0 = .ok (.iconst 0, 1) := by decide +kernel
theorem dX10_luckOfAll_1 : decode cX10_luckOfAll 1 = .ok (.istore_n 1, 1) := by decide +kernel
theorem dX10_luckOfAll_2 : decode cX10_luckOfAll 2 = .ok (.iconst 0, 1) := by decide +kernel
theorem dX10_luckOfAll_3 : decode cX10_luckOfAll 3 = .ok (.istore_n 2, 1) := by decide +kernel
theorem dX10_luckOfAll_26 : decode cX10_luckOfAll 26 = .ok (.iload_n 1, 1) := by decide +kernel
theorem dX10_luckOfAll_27 : decode cX10_luckOfAll 27 = .ok (.ireturn, 1) := by decide +kernel
abbrev mX10_isStuckElsewhere : Ym := (yX10_isStuckElsewhere, cX10_isStuckElsewhere, 3, some .boolean)
theorem dX10_isStuckElsewhere_0 : decode cX10_isStuckElsewhere 0 = .ok (.aload_n 0, 1) := by decide +kernel
theorem dX10_isStuckElsewhere_1 : decode cX10_isStuckElsewhere 1 = .ok (.iload_n 1, 1) := by decide +kernel
theorem dX10_isStuckElsewhere_2 : decode cX10_isStuckElsewhere 2 = .ok (.invokevirtual 302, 3) := by decide +kernel
theorem wi_1642 : Cond.methodLink RX10 302 yX10_isStuck ∈ WA := zin 1642 (by decide +kernel) (by decide +kernel)
theorem wi_1645 : Cond.code yX10_isStuck cX10_isStuck 2 (some .boolean) ∈ WA := zin 1645 (by decide +kernel) (by decide +kernel)
theorem wi_1644 : Cond.instanceMethod yX10_isStuck ∈ WA := zin 1644 (by decide +kernel) (by decide +kernel)
theorem wi_68 : Cond.selects RX10 yX10_isStuck yX10_isStuck ∈ WA := zin 68 (by decide +kernel) (by decide +kernel)
theorem mv_X10_302 : zMv RX10 302 RX10 mX10_isStuck 1 := ⟨⟨wi_1642, wi_110, wi_1645, by decide, by decide +kernel⟩, wi_1644, wi_68⟩
theorem dX10_isStuckElsewhere_5 : decode cX10_isStuckElsewhere 5 = .ok (.ifCond .eq 17, 3) := by decide +kernel
theorem dX10_isStuckElsewhere_22 : decode cX10_isStuckElsewhere 22 = .ok (.iconst 0, 1) := by decide +kernel
theorem dX10_isStuckElsewhere_23 : decode cX10_isStuckElsewhere 23 = .ok (.ireturn, 1) := by decide +kernel
theorem dX10_isStuckElsewhere_8 : decode cX10_isStuckElsewhere 8 = .ok (.aload_n 0, 1) := by decide +kernel
theorem dX10_isStuckElsewhere_9 : decode cX10_isStuckElsewhere 9 = .ok (.iload_n 1, 1) := by decide +kernel
theorem dX10_isStuckElsewhere_10 : decode cX10_isStuckElsewhere 10 = .ok (.iconst 5, 1) := by decide +kernel
theorem dX10_isStuckElsewhere_11 : decode cX10_isStuckElsewhere 11 = .ok (.invokevirtual 71, 3) := by decide +kernel
theorem dX10_isStuckElsewhere_14 : decode cX10_isStuckElsewhere 14 = .ok (.iload_n 2, 1) := by decide +kernel
theorem dX10_isStuckElsewhere_15 : decode cX10_isStuckElsewhere 15 = .ok (.if_icmp .eq 7, 3) := by decide +kernel
theorem dX10_isStuckElsewhere_18 : decode cX10_isStuckElsewhere 18 = .ok (.iconst 1, 1) := by decide +kernel
theorem dX10_isStuckElsewhere_19 : decode cX10_isStuckElsewhere 19 = .ok (.goto 4, 3) := by decide +kernel
abbrev mX10_mayHave : Ym := (yX10_mayHave, cX10_mayHave, 3, some .boolean)
theorem dX10_mayHave_0 : decode cX10_mayHave 0 = .ok (.aload_n 0, 1) := by decide +kernel
theorem dX10_mayHave_1 : decode cX10_mayHave 1 = .ok (.iload_n 1, 1) := by decide +kernel
theorem dX10_mayHave_2 : decode cX10_mayHave 2 = .ok (.invokevirtual 305, 3) := by decide +kernel
theorem wi_1638 : Cond.methodLink RX10 305 yX10_isPawned ∈ WA := zin 1638 (by decide +kernel) (by decide +kernel)
theorem wi_1641 : Cond.code yX10_isPawned cX10_isPawned 2 (some .boolean) ∈ WA := zin 1641 (by decide +kernel) (by decide +kernel)
theorem wi_1640 : Cond.instanceMethod yX10_isPawned ∈ WA := zin 1640 (by decide +kernel) (by decide +kernel)
theorem wi_67 : Cond.selects RX10 yX10_isPawned yX10_isPawned ∈ WA := zin 67 (by decide +kernel) (by decide +kernel)
theorem mv_X10_305 : zMv RX10 305 RX10 mX10_isPawned 1 := ⟨⟨wi_1638, wi_110, wi_1641, by decide, by decide +kernel⟩, wi_1640, wi_67⟩
theorem dX10_mayHave_5 : decode cX10_mayHave 5 = .ok (.ifCond .ne 16, 3) := by decide +kernel
theorem dX10_mayHave_21 : decode cX10_mayHave 21 = .ok (.iconst 0, 1) := by decide +kernel
theorem dX10_mayHave_22 : decode cX10_mayHave 22 = .ok (.ireturn, 1) := by decide +kernel
theorem dX10_mayHave_8 : decode cX10_mayHave 8 = .ok (.aload_n 0, 1) := by decide +kernel
theorem dX10_mayHave_9 : decode cX10_mayHave 9 = .ok (.iload_n 1, 1) := by decide +kernel
theorem dX10_mayHave_10 : decode cX10_mayHave 10 = .ok (.iload_n 2, 1) := by decide +kernel
theorem dX10_mayHave_11 : decode cX10_mayHave 11 = .ok (.invokevirtual 308, 3) := by decide +kernel
theorem wi_1711 : Cond.methodLink RX10 308 yX10_isStuckElsewhere ∈ WA := zin 1711 (by decide +kernel) (by decide +kernel)
theorem wi_1714 : Cond.code yX10_isStuckElsewhere cX10_isStuckElsewhere 3 (some .boolean) ∈ WA := zin 1714 (by decide +kernel) (by decide +kernel)
theorem wi_1713 : Cond.instanceMethod yX10_isStuckElsewhere ∈ WA := zin 1713 (by decide +kernel) (by decide +kernel)
theorem wi_79 : Cond.selects RX10 yX10_isStuckElsewhere yX10_isStuckElsewhere ∈ WA := zin 79 (by decide +kernel) (by decide +kernel)
theorem mv_X10_308 : zMv RX10 308 RX10 mX10_isStuckElsewhere 2 := ⟨⟨wi_1711, wi_110, wi_1714, by decide, by decide +kernel⟩, wi_1713, wi_79⟩
theorem dX10_mayHave_14 : decode cX10_mayHave 14 = .ok (.ifCond .ne 7, 3) := by decide +kernel
theorem dX10_mayHave_17 : decode cX10_mayHave 17 = .ok (.iconst 1, 1) := by decide +kernel
theorem dX10_mayHave_18 : decode cX10_mayHave 18 = .ok (.goto 4, 3) := by decide +kernel
def cp (f g : Nat → Int32) (i : Nat) : Nat → Int32 := fun k => if k < i then f k else g k
theorem cp_upd (f g : Nat → Int32) (i : Nat) : upd (cp f g i) i (f i) = cp f g (i + 1) := by
  funext k
  simp only [upd, cp]
  by_cases h : k = i
  · subst h; simp
  · rw [if_neg h]
    by_cases h2 : k < i
    · rw [if_pos h2, if_pos (by omega)]
    · rw [if_neg h2, if_neg (by omega)]
theorem cp_0 (f g : Nat → Int32) : cp f g 0 = g := by funext k; simp [cp]
theorem zup_zset (I : Hi) (a j : Nat) (g : Nat → Int32) (v : Int32) : zup (zset I a g) a j v = zset I a (upd g j v) := by
  funext k
  simp only [zup, zset]
  by_cases h : k = a <;> simp [h]
theorem zset_zset (I : Hi) (a : Nat) (g h : Nat → Int32) : zset (zset I a g) a h = zset I a h := by
  funext k
  simp only [zset]
  by_cases q : k = a <;> simp [q]
theorem zset_self (I : Hi) (a : Nat) : zset I a (I a) = I := by
  funext k
  simp only [zset]
  by_cases q : k = a <;> simp [q]
theorem zset_at (I : Hi) (a : Nat) (g : Nat → Int32) : zset I a g a = g := by simp [zset]
theorem zset_ne (I : Hi) {a b : Nat} (g : Nat → Int32) (h : b ≠ a) : zset I a g b = I b := by simp [zset, h]
theorem cp_start (J : Hi) (a : Nat) (f : Nat → Int32) : J = zset J a (cp f (J a) 0) := by rw [cp_0, zset_self]
section RefB
variable (G : Gx) (d : Nat) (I : Hi)
theorem ct_things : Ct G GAM mX10_things d 0 [.ref 94] I (Rp (some (.int (I 95 1))) I) := by
  refine Ct.mk [some (.ref 94)] ?_
  refine Rn.aload_n dX10_things_0 rfl rfl ?_
  refine Rn.getR dX10_things_1 fd_X10_13_9 (by first | rfl | exact gC0 (by assumption) | exact gL0 (by assumption)) rfl ?_
  refine Rn.iconst (v := (nI 1)) dX10_things_4 rfl ?_
  refine Rn.ialdN dX10_things_5 (by first | rfl | exact gC1 (by assumption) | exact gC2 (by assumption) | exact gC3 (by assumption) | exact gL1 (by assumption) | exact gL2 (by assumption) | exact gL3 (by assumption) | exact gL4 (by assumption) | exact gL5 (by assumption) | exact gL6 (by assumption)) ?_
  exact Rn.iret dX10_things_6 rfl (⟨rfl, rfl⟩)
theorem ct_thingAt (w k : Nat) : Ct G GAM mX10_thingAt d 0 [.int (nI w), .int (nI k)] I (Rp (some (.int (nI (65 + 9 * w + k)))) I) := by
  refine Ct.mk [some (.int (nI w)), some (.int (nI k))] ?_
  refine Rn.bipush (v := (nI 65)) dX10_thingAt_0 rfl ?_
  refine Rn.bipush (v := (nI 9)) dX10_thingAt_2 rfl ?_
  refine Rn.iload_n dX10_thingAt_4 rfl rfl ?_
  refine Rn.imul dX10_thingAt_5 ?_
  refine Rn.iadd dX10_thingAt_6 ?_
  refine Rn.iload_n dX10_thingAt_7 rfl rfl ?_
  refine Rn.iadd dX10_thingAt_8 ?_
  exact Rn.iret dX10_thingAt_9 rfl (⟨by simp only [nI_add, pk_mul], rfl⟩)
theorem ct_ofThing (w k : Nat) (h : 65 + 9 * w + k < 2075) : Ct G GAM mX10_ofThing (d + 1) 0 [.ref 94, .int (nI w), .int (nI k)] I (Rp (some (.int (I 95 (65 + 9 * w + k)))) I) := by
  refine Ct.mk [some (.ref 94), some (.int (nI w)), some (.int (nI k))] ?_
  refine Rn.aload_n dX10_ofThing_0 rfl rfl ?_
  refine Rn.getR dX10_ofThing_1 fd_X10_13_9 (by first | rfl | exact gC0 (by assumption) | exact gL0 (by assumption)) rfl ?_
  refine Rn.iload_n dX10_ofThing_4 rfl rfl ?_
  refine Rn.iload_n dX10_ofThing_5 rfl rfl ?_
  refine Rn.callSp (As := [_, _]) dX10_ofThing_6 ms_X10_68 rfl rfl (Nat.le_of_ble_eq_true rfl) (ct_thingAt G _ _ _ _) ?_
  refine Rn.ialdN dX10_ofThing_9 (by first | rfl | exact gC1 (by assumption) | exact gC2 (by assumption) | exact gC3 (by assumption) | exact gL1 (by assumption) | exact gL2 (by assumption) | exact gL3 (by assumption) | exact gL4 (by assumption) | exact gL5 (by assumption) | exact gL6 (by assumption)) ?_
  exact Rn.iret dX10_ofThing_10 rfl (⟨rfl, rfl⟩)
theorem ct_isPawned (t : Nat) (h : t < 8) : Ct G GAM mX10_isPawned (d + 2) 0 [.ref 94, .int (nI t)] I (Rp (some (.int (bI (I 95 (65 + 9 * t + 5) = -1)))) I) := by
  refine Ct.mk [some (.ref 94), some (.int (nI t))] ?_
  refine Rn.aload_n dX10_isPawned_0 rfl rfl ?_
  refine Rn.iload_n dX10_isPawned_1 rfl rfl ?_
  refine Rn.iconst (v := (nI 5)) dX10_isPawned_2 rfl ?_
  refine Rn.callVp (As := [_, _]) dX10_isPawned_3 mv_X10_71 (by first | rfl | exact gC0 (by assumption) | exact gL0 (by assumption)) rfl rfl rfl (Nat.le_of_ble_eq_true rfl) (ct_ofThing G _ _ _ _ (by omega)) ?_
  refine Rn.iconst (v := (-1)) dX10_isPawned_6 rfl ?_
  refine Rn.icmp_ne (tgt := 14) dX10_isPawned_7 (by decide) (fun h1 => ?_) (fun h1 => ?_)
  · refine Rn.iconst (v := (nI 0)) dX10_isPawned_14 rfl ?_
    exact Rn.zret dX10_isPawned_15 rfl rfl (⟨by rw [bI_f h1]; rfl, rfl⟩)
  · refine Rn.iconst (v := (nI 1)) dX10_isPawned_10 rfl ?_
    refine Rn.goto 15 dX10_isPawned_11 (by decide) ?_
    exact Rn.zret dX10_isPawned_15 rfl rfl (⟨by rw [bI_t h1]; rfl, rfl⟩)
theorem ct_isStuck (t : Nat) (h : t < 8) : Ct G GAM mX10_isStuck (d + 2) 0 [.ref 94, .int (nI t)] I (Rp (some (.int (bI (I 95 (65 + 9 * t + 7) = nI 1)))) I) := by
  refine Ct.mk [some (.ref 94), some (.int (nI t))] ?_
  refine Rn.aload_n dX10_isStuck_0 rfl rfl ?_
  refine Rn.iload_n dX10_isStuck_1 rfl rfl ?_
  refine Rn.bipush (v := (nI 7)) dX10_isStuck_2 rfl ?_
  refine Rn.callVp (As := [_, _]) dX10_isStuck_4 mv_X10_71 (by first | rfl | exact gC0 (by assumption) | exact gL0 (by assumption)) rfl rfl rfl (Nat.le_of_ble_eq_true rfl) (ct_ofThing G _ _ _ _ (by omega)) ?_
  refine Rn.iconst (v := (nI 1)) dX10_isStuck_7 rfl ?_
  refine Rn.icmp_ne (tgt := 15) dX10_isStuck_8 (by decide) (fun h1 => ?_) (fun h1 => ?_)
  · refine Rn.iconst (v := (nI 0)) dX10_isStuck_15 rfl ?_
    exact Rn.zret dX10_isStuck_16 rfl rfl (⟨by rw [bI_f h1]; rfl, rfl⟩)
  · refine Rn.iconst (v := (nI 1)) dX10_isStuck_11 rfl ?_
    refine Rn.goto 16 dX10_isStuck_12 (by decide) ?_
    exact Rn.zret dX10_isStuck_16 rfl rfl (⟨by rw [bI_t h1]; rfl, rfl⟩)
theorem ct_isWidow (t : Nat) (h : t < 8) : Ct G GAM mX10_isWidow (d + 2) 0 [.ref 94, .int (nI t)] I (Rp (some (.int (bI (I 95 (9 + 7 * t + 6) = nI 1)))) I) := by
  refine Ct.mk [some (.ref 94), some (.int (nI t))] ?_
  refine Rn.aload_n dX10_isWidow_0 rfl rfl ?_
  refine Rn.iload_n dX10_isWidow_1 rfl rfl ?_
  refine Rn.bipush (v := (nI 6)) dX10_isWidow_2 rfl ?_
  refine Rn.callVp (As := [_, _]) dX10_isWidow_4 mv_X10_65 (by first | rfl | exact gC0 (by assumption) | exact gL0 (by assumption)) rfl rfl rfl (Nat.le_of_ble_eq_true rfl) (ct_of G _ _ _ _ (by omega)) ?_
  refine Rn.iconst (v := (nI 1)) dX10_isWidow_7 rfl ?_
  refine Rn.icmp_ne (tgt := 15) dX10_isWidow_8 (by decide) (fun h1 => ?_) (fun h1 => ?_)
  · refine Rn.iconst (v := (nI 0)) dX10_isWidow_15 rfl ?_
    exact Rn.zret dX10_isWidow_16 rfl rfl (⟨by rw [bI_f h1]; rfl, rfl⟩)
  · refine Rn.iconst (v := (nI 1)) dX10_isWidow_11 rfl ?_
    refine Rn.goto 16 dX10_isWidow_12 (by decide) ?_
    exact Rn.zret dX10_isWidow_16 rfl rfl (⟨by rw [bI_t h1]; rfl, rfl⟩)
theorem ct_noWoman (w : Int32) : Ct G GAM mX10_noWoman (d + 1) 0 [.ref 94, .int w] I (Rp (some (.int (bI (¬ (nI 0 ≤ w ∧ w ≤ I 95 0 - nI 1))))) I) := by
  refine Ct.mk [some (.ref 94), some (.int w)] ?_
  refine Rn.iload_n dX10_noWoman_0 rfl rfl ?_
  refine Rn.iconst (v := (nI 0)) dX10_noWoman_1 rfl ?_
  refine Rn.aload_n dX10_noWoman_2 rfl rfl ?_
  refine Rn.callVp (As := []) dX10_noWoman_3 mv_X10_74 (by first | rfl | exact gC0 (by assumption) | exact gL0 (by assumption)) rfl rfl rfl (Nat.le_of_ble_eq_true rfl) (ct_women G _ _) ?_
  refine Rn.iconst (v := (nI 1)) dX10_noWoman_6 rfl ?_
  refine Rn.isub dX10_noWoman_7 ?_
  refine Rn.callSp (As := [_, _, _]) dX10_noWoman_8 ms_X10_78 rfl rfl (Nat.le_of_ble_eq_true rfl) (ct_in G _ _ _ _ _) ?_
  refine Rn.if_neB dX10_noWoman_11 18 (fun h1 => ?_) (fun h1 => ?_)
  · refine Rn.iconst (v := (nI 0)) dX10_noWoman_18 rfl ?_
    exact Rn.zret dX10_noWoman_19 rfl rfl (⟨by rw [bI_f (fun q => q h1)]; rfl, rfl⟩)
  · refine Rn.iconst (v := (nI 1)) dX10_noWoman_14 rfl ?_
    refine Rn.goto 19 dX10_noWoman_15 (by decide) ?_
    exact Rn.zret dX10_noWoman_19 rfl rfl (⟨by rw [bI_t h1]; rfl, rfl⟩)
theorem ct_noThing (w : Int32) : Ct G GAM mX10_noThing (d + 1) 0 [.ref 94, .int w] I (Rp (some (.int (bI (¬ (nI 0 ≤ w ∧ w ≤ I 95 1 - nI 1))))) I) := by
  refine Ct.mk [some (.ref 94), some (.int w)] ?_
  refine Rn.iload_n dX10_noThing_0 rfl rfl ?_
  refine Rn.iconst (v := (nI 0)) dX10_noThing_1 rfl ?_
  refine Rn.aload_n dX10_noThing_2 rfl rfl ?_
  refine Rn.callVp (As := []) dX10_noThing_3 mv_X10_82 (by first | rfl | exact gC0 (by assumption) | exact gL0 (by assumption)) rfl rfl rfl (Nat.le_of_ble_eq_true rfl) (ct_things G _ _) ?_
  refine Rn.iconst (v := (nI 1)) dX10_noThing_6 rfl ?_
  refine Rn.isub dX10_noThing_7 ?_
  refine Rn.callSp (As := [_, _, _]) dX10_noThing_8 ms_X10_78 rfl rfl (Nat.le_of_ble_eq_true rfl) (ct_in G _ _ _ _ _) ?_
  refine Rn.if_neB dX10_noThing_11 18 (fun h1 => ?_) (fun h1 => ?_)
  · refine Rn.iconst (v := (nI 0)) dX10_noThing_18 rfl ?_
    exact Rn.zret dX10_noThing_19 rfl rfl (⟨by rw [bI_f (fun q => q h1)]; rfl, rfl⟩)
  · refine Rn.iconst (v := (nI 1)) dX10_noThing_14 rfl ?_
    refine Rn.goto 19 dX10_noThing_15 (by decide) ?_
    exact Rn.zret dX10_noThing_19 rfl rfl (⟨by rw [bI_t h1]; rfl, rfl⟩)
theorem ct_noSort (w : Int32) : Ct G GAM mX10_noSort (d + 1) 0 [.int w] I (Rp (some (.int (bI (¬ (nI 0 ≤ w ∧ w ≤ nI 3))))) I) := by
  refine Ct.mk [some (.int w)] ?_
  refine Rn.iload_n dX10_noSort_0 rfl rfl ?_
  refine Rn.iconst (v := (nI 0)) dX10_noSort_1 rfl ?_
  refine Rn.iconst (v := (nI 3)) dX10_noSort_2 rfl ?_
  refine Rn.callSp (As := [_, _, _]) dX10_noSort_3 ms_X10_78 rfl rfl (Nat.le_of_ble_eq_true rfl) (ct_in G _ _ _ _ _) ?_
  refine Rn.if_neB dX10_noSort_6 13 (fun h1 => ?_) (fun h1 => ?_)
  · refine Rn.iconst (v := (nI 0)) dX10_noSort_13 rfl ?_
    exact Rn.zret dX10_noSort_14 rfl rfl (⟨by rw [bI_f (fun q => q h1)]; rfl, rfl⟩)
  · refine Rn.iconst (v := (nI 1)) dX10_noSort_9 rfl ?_
    refine Rn.goto 14 dX10_noSort_10 (by decide) ?_
    exact Rn.zret dX10_noSort_14 rfl rfl (⟨by rw [bI_t h1]; rfl, rfl⟩)
def nseed (s : Int32) : Int32 := 1103515245 * s + nI 12345
def ndraw (s : Int32) : Int32 := (nseed s >>> (nI 16 &&& 31)) &&& nI 32767
theorem ct_drawn (n : Int32) (hn : ¬ n = 0) : Ct G GAM mX10_drawn d 0 [.ref 94, .int n] I (Rp (some (.int (ndraw (I 95 8) - ndraw (I 95 8) / n * n))) (zup I 95 8 (nseed (I 95 8)))) := by
  refine Ct.mk [some (.ref 94), some (.int n)] ?_
  refine Rn.aload_n dX10_drawn_0 rfl rfl ?_
  refine Rn.getR dX10_drawn_1 fd_X10_13_9 (by first | rfl | exact gC0 (by assumption) | exact gL0 (by assumption)) rfl ?_
  refine Rn.bipush (v := (nI 8)) dX10_drawn_4 rfl ?_
  refine Rn.ldc dX10_drawn_6 kc_X10_85 ?_
  refine Rn.aload_n dX10_drawn_8 rfl rfl ?_
  refine Rn.getR dX10_drawn_9 fd_X10_13_9 (by first | rfl | exact gC0 (by assumption) | exact gL0 (by assumption)) rfl ?_
  refine Rn.bipush (v := (nI 8)) dX10_drawn_12 rfl ?_
  refine Rn.ialdN dX10_drawn_14 (by first | rfl | exact gC1 (by assumption) | exact gC2 (by assumption) | exact gC3 (by assumption) | exact gL1 (by assumption) | exact gL2 (by assumption) | exact gL3 (by assumption) | exact gL4 (by assumption) | exact gL5 (by assumption) | exact gL6 (by assumption)) ?_
  refine Rn.imul dX10_drawn_15 ?_
  refine Rn.sipush (v := (nI 12345)) dX10_drawn_16 rfl ?_
  refine Rn.iadd dX10_drawn_19 ?_
  refine Rn.iastN dX10_drawn_20 (by first | rfl | exact gC1 (by assumption) | exact gC2 (by assumption) | exact gC3 (by assumption) | exact gL1 (by assumption) | exact gL2 (by assumption) | exact gL3 (by assumption) | exact gL4 (by assumption) | exact gL5 (by assumption) | exact gL6 (by assumption)) ?_
  refine Rn.aload_n dX10_drawn_21 rfl rfl ?_
  refine Rn.getR dX10_drawn_22 fd_X10_13_9 (by first | rfl | exact gC0 (by assumption) | exact gL0 (by assumption)) rfl ?_
  refine Rn.bipush (v := (nI 8)) dX10_drawn_25 rfl ?_
  refine Rn.ialdN dX10_drawn_27 (by first | rfl | exact gC1 (by assumption) | exact gC2 (by assumption) | exact gC3 (by assumption) | exact gL1 (by assumption) | exact gL2 (by assumption) | exact gL3 (by assumption) | exact gL4 (by assumption) | exact gL5 (by assumption) | exact gL6 (by assumption)) ?_
  refine Rn.bipush (v := (nI 16)) dX10_drawn_28 rfl ?_
  refine Rn.ishr dX10_drawn_30 ?_
  refine Rn.sipush (v := (nI 32767)) dX10_drawn_31 rfl ?_
  refine Rn.iand dX10_drawn_34 ?_
  refine Rn.iload_n dX10_drawn_35 rfl rfl ?_
  refine Rn.irem dX10_drawn_36 (by exact hn) ?_
  exact Rn.iret dX10_drawn_37 rfl (⟨rfl, rfl⟩)
theorem ct_end (n : Int32) : Ct G GAM mX10_end d 0 [.ref 94, .int n] I (Rp (some (.int (bI (¬ n < 0 ∧ n ≤ I 94 9)))) (if ¬ n < 0 ∧ n ≤ I 94 9 then zup (zup I 94 0 (nI 0)) 94 9 n else zup I 94 0 (nI 0))) := by
  refine Ct.mk [some (.ref 94), some (.int n)] ?_
  refine Rn.aload_n dX10_end_0 rfl rfl ?_
  refine Rn.iconst (v := (nI 0)) dX10_end_1 rfl ?_
  refine Rn.putI dX10_end_2 fp_X10_3_9 (by first | rfl | exact gC0 (by assumption) | exact gL0 (by assumption)) rfl ?_
  refine Rn.iload_n dX10_end_5 rfl rfl ?_
  refine Rn.if_lt (tgt := 17) dX10_end_6 (by decide) (fun h1 => ?_) (fun h1 => ?_)
  · refine Rn.iconst (v := (nI 0)) dX10_end_17 rfl ?_
    exact Rn.zret dX10_end_18 rfl rfl (⟨by rw [bI_f (fun q => q.1 h1)]; rfl, by rw [if_neg (fun q => q.1 h1)]⟩)
  · refine Rn.iload_n dX10_end_9 rfl rfl ?_
    refine Rn.aload_n dX10_end_10 rfl rfl ?_
    refine Rn.getI dX10_end_11 fd_X10_86_9 (by first | rfl | exact gC0 (by assumption) | exact gL0 (by assumption)) rfl ?_
    refine Rn.icmp_le (tgt := 19) dX10_end_14 (by decide) (fun h2 => ?_) (fun h2 => ?_)
    · refine Rn.aload_n dX10_end_19 rfl rfl ?_
      refine Rn.iload_n dX10_end_20 rfl rfl ?_
      refine Rn.putI dX10_end_21 fp_X10_86_9 (by first | rfl | exact gC0 (by assumption) | exact gL0 (by assumption)) rfl ?_
      refine Rn.iconst (v := (nI 1)) dX10_end_24 rfl ?_
      exact Rn.zret dX10_end_25 rfl rfl (⟨by rw [bI_t ⟨h1, h2⟩]; rfl, by rw [if_pos ⟨h1, h2⟩]⟩)
    · refine Rn.iconst (v := (nI 0)) dX10_end_17 rfl ?_
      exact Rn.zret dX10_end_18 rfl rfl (⟨by rw [bI_f (fun q => h2 q.2)]; rfl, by rw [if_neg (fun q => h2 q.2)]⟩)
theorem ct_uses : Ct G GAM mX10_uses d 0 [.ref 94] I (Rp none (zup (zup (zup (zup I 94 0 (nI 0)) 94 11 (I 94 9)) 94 9 (nI 0)) 94 10 (nI 0))) := by
  refine Ct.mk [some (.ref 94)] ?_
  refine Rn.aload_n dX10_uses_0 rfl rfl ?_
  refine Rn.iconst (v := (nI 0)) dX10_uses_1 rfl ?_
  refine Rn.putI dX10_uses_2 fp_X10_3_9 (by first | rfl | exact gC0 (by assumption) | exact gL0 (by assumption)) rfl ?_
  refine Rn.aload_n dX10_uses_5 rfl rfl ?_
  refine Rn.aload_n dX10_uses_6 rfl rfl ?_
  refine Rn.getI dX10_uses_7 fd_X10_86_9 (by first | rfl | exact gC0 (by assumption) | exact gL0 (by assumption)) rfl ?_
  refine Rn.putI dX10_uses_10 fp_X10_92_9 (by first | rfl | exact gC0 (by assumption) | exact gL0 (by assumption)) rfl ?_
  refine Rn.aload_n dX10_uses_13 rfl rfl ?_
  refine Rn.iconst (v := (nI 0)) dX10_uses_14 rfl ?_
  refine Rn.putI dX10_uses_15 fp_X10_86_9 (by first | rfl | exact gC0 (by assumption) | exact gL0 (by assumption)) rfl ?_
  refine Rn.aload_n dX10_uses_18 rfl rfl ?_
  refine Rn.iconst (v := (nI 0)) dX10_uses_19 rfl ?_
  refine Rn.putI dX10_uses_20 fp_X10_89_9 (by first | rfl | exact gC0 (by assumption) | exact gL0 (by assumption)) rfl ?_
  exact Rn.vret dX10_uses_23 rfl (⟨rfl, rfl⟩)
theorem ct_fault : Ct G GAM mX10_fault d 0 [.ref 94] I (Rp (some (.int (I 94 14))) (zup I 94 0 (nI 0))) := by
  refine Ct.mk [some (.ref 94)] ?_
  refine Rn.aload_n dX10_fault_0 rfl rfl ?_
  refine Rn.iconst (v := (nI 0)) dX10_fault_1 rfl ?_
  refine Rn.putI dX10_fault_2 fp_X10_3_9 (by first | rfl | exact gC0 (by assumption) | exact gL0 (by assumption)) rfl ?_
  refine Rn.aload_n dX10_fault_5 rfl rfl ?_
  refine Rn.getI dX10_fault_6 fd_X10_33_9 (by first | rfl | exact gC0 (by assumption) | exact gL0 (by assumption)) rfl ?_
  exact Rn.iret dX10_fault_9 rfl (⟨rfl, rfl⟩)
theorem lp_image {kx : Kx} {b : Nat} (J : Hi) (k : Rn G GAM mX10_image kx d b 32 [some (.ref 94), some (.int (nI 1226))] [] (zset J 96 (cp (J 95) (J 96) 1226))) : ∀ n i : Nat, i + n = 1226 → Rn G GAM mX10_image kx d b 7 [some (.ref 94), some (.int (nI i))] [] (zset J 96 (cp (J 95) (J 96) i)) := by
  intro n
  induction n with
  | zero =>
    intro i hi
    obtain rfl : i = 1226 := by omega
    refine Rn.iload_n dX10_image_7 rfl rfl ?_
    refine Rn.sipush (v := (nI 1226)) dX10_image_8 rfl ?_
    refine Rn.icmp_geN dX10_image_11 32 (fun _ => ?_) (fun h9 => by exfalso; omega)
    exact k
  | succ n ih =>
    intro i hi
    refine Rn.iload_n dX10_image_7 rfl rfl ?_
    refine Rn.sipush (v := (nI 1226)) dX10_image_8 rfl ?_
    refine Rn.icmp_geN dX10_image_11 32 (fun h9 => by exfalso; omega) (fun _ => ?_)
    refine Rn.aload_n dX10_image_14 rfl rfl ?_
    refine Rn.getR dX10_image_15 fd_X10_17_9 (by first | rfl | exact gC0 (by assumption) | exact gL0 (by assumption)) rfl ?_
    refine Rn.iload_n dX10_image_18 rfl rfl ?_
    refine Rn.aload_n dX10_image_19 rfl rfl ?_
    refine Rn.getR dX10_image_20 fd_X10_13_9 (by first | rfl | exact gC0 (by assumption) | exact gL0 (by assumption)) rfl ?_
    refine Rn.iload_n dX10_image_23 rfl rfl ?_
    refine Rn.ialdN dX10_image_24 (by first | rfl | exact gC1 (by assumption) | exact gC2 (by assumption) | exact gC3 (by assumption) | exact gL1 (by assumption) | exact gL2 (by assumption) | exact gL3 (by assumption) | exact gL4 (by assumption) | exact gL5 (by assumption) | exact gL6 (by assumption)) ?_
    refine Rn.iastN dX10_image_25 (by first | rfl | exact gC1 (by assumption) | exact gC2 (by assumption) | exact gC3 (by assumption) | exact gL1 (by assumption) | exact gL2 (by assumption) | exact gL3 (by assumption) | exact gL4 (by assumption) | exact gL5 (by assumption) | exact gL6 (by assumption)) ?_
    refine Rn.iincN dX10_image_26 rfl (by decide) ?_
    refine Rn.goto 7 dX10_image_29 (by decide) ?_
    exact Rn.hpp _ (by rw [zup_zset]; exact congrArg _ (cp_upd _ _ i)) (ih (i + 1) (by omega))
theorem ct_image : Ct G GAM mX10_image d 0 [.ref 94] I (Rp none (zup (zset (zup I 94 0 (nI 0)) 96 (cp (I 95) (I 96) 1226)) 94 6 (nI 1))) := by
  refine Ct.mk [some (.ref 94), none] ?_
  refine Rn.aload_n dX10_image_0 rfl rfl ?_
  refine Rn.iconst (v := (nI 0)) dX10_image_1 rfl ?_
  refine Rn.putI dX10_image_2 fp_X10_3_9 (by first | rfl | exact gC0 (by assumption) | exact gL0 (by assumption)) rfl ?_
  refine Rn.iconst (v := (nI 0)) dX10_image_5 rfl ?_
  refine Rn.istore_n dX10_image_6 rfl (by decide) ?_
  refine Rn.hpp _ (cp_start _ 96 _) (lp_image G d (zup I 94 0 (nI 0)) ?_ 1226 0 rfl)
  refine Rn.aload_n dX10_image_32 rfl rfl ?_
  refine Rn.iconst (v := (nI 1)) dX10_image_33 rfl ?_
  refine Rn.put dX10_image_34 fp_X10_54_9 (by first | rfl | exact gC0 (by assumption) | exact gL0 (by assumption)) rfl ⟨rfl, rfl⟩ ?_
  exact Rn.vret dX10_image_37 rfl (⟨rfl, rfl⟩)
theorem lp_back {kx : Kx} {b : Nat} (J : Hi) (k : Rn G GAM mX10_back kx d b 41 [some (.ref 94), some (.int (nI 1226))] [] (zset J 95 (cp (J 96) (J 95) 1226))) : ∀ n i : Nat, i + n = 1226 → Rn G GAM mX10_back kx d b 16 [some (.ref 94), some (.int (nI i))] [] (zset J 95 (cp (J 96) (J 95) i)) := by
  intro n
  induction n with
  | zero =>
    intro i hi
    obtain rfl : i = 1226 := by omega
    refine Rn.iload_n dX10_back_16 rfl rfl ?_
    refine Rn.sipush (v := (nI 1226)) dX10_back_17 rfl ?_
    refine Rn.icmp_geN dX10_back_20 41 (fun _ => ?_) (fun h9 => by exfalso; omega)
    exact k
  | succ n ih =>
    intro i hi
    refine Rn.iload_n dX10_back_16 rfl rfl ?_
    refine Rn.sipush (v := (nI 1226)) dX10_back_17 rfl ?_
    refine Rn.icmp_geN dX10_back_20 41 (fun h9 => by exfalso; omega) (fun _ => ?_)
    refine Rn.aload_n dX10_back_23 rfl rfl ?_
    refine Rn.getR dX10_back_24 fd_X10_13_9 (by first | rfl | exact gC0 (by assumption) | exact gL0 (by assumption)) rfl ?_
    refine Rn.iload_n dX10_back_27 rfl rfl ?_
    refine Rn.aload_n dX10_back_28 rfl rfl ?_
    refine Rn.getR dX10_back_29 fd_X10_17_9 (by first | rfl | exact gC0 (by assumption) | exact gL0 (by assumption)) rfl ?_
    refine Rn.iload_n dX10_back_32 rfl rfl ?_
    refine Rn.ialdN dX10_back_33 (by first | rfl | exact gC1 (by assumption) | exact gC2 (by assumption) | exact gC3 (by assumption) | exact gL1 (by assumption) | exact gL2 (by assumption) | exact gL3 (by assumption) | exact gL4 (by assumption) | exact gL5 (by assumption) | exact gL6 (by assumption)) ?_
    refine Rn.iastN dX10_back_34 (by first | rfl | exact gC1 (by assumption) | exact gC2 (by assumption) | exact gC3 (by assumption) | exact gL1 (by assumption) | exact gL2 (by assumption) | exact gL3 (by assumption) | exact gL4 (by assumption) | exact gL5 (by assumption) | exact gL6 (by assumption)) ?_
    refine Rn.iincN dX10_back_35 rfl (by decide) ?_
    refine Rn.goto 16 dX10_back_38 (by decide) ?_
    exact Rn.hpp _ (by rw [zup_zset]; exact congrArg _ (cp_upd _ _ i)) (ih (i + 1) (by omega))
theorem ct_back (h : I 94 6 = nI 0 ∨ I 94 6 = nI 1) : Ct G GAM mX10_back d 0 [.ref 94] I (Rp (some (.int (I 94 6))) (if I 94 6 = nI 0 then zup I 94 0 (nI 0) else zup (zset (zup I 94 0 (nI 0)) 95 (cp (I 96) (I 95) 1226)) 94 7 (nI 0))) := by
  refine Ct.mk [some (.ref 94), none] ?_
  refine Rn.aload_n dX10_back_0 rfl rfl ?_
  refine Rn.iconst (v := (nI 0)) dX10_back_1 rfl ?_
  refine Rn.putI dX10_back_2 fp_X10_3_9 (by first | rfl | exact gC0 (by assumption) | exact gL0 (by assumption)) rfl ?_
  refine Rn.aload_n dX10_back_5 rfl rfl ?_
  refine Rn.getI dX10_back_6 fd_X10_54_9 (by first | rfl | exact gC0 (by assumption) | exact gL0 (by assumption)) rfl ?_
  refine Rn.if_ne (tgt := 14) dX10_back_9 (by decide) (fun h1 => ?_) (fun h1 => ?_)
  · refine Rn.iconst (v := (nI 0)) dX10_back_14 rfl ?_
    refine Rn.istore_n dX10_back_15 rfl (by decide) ?_
    refine Rn.hpp _ (cp_start _ 95 _) (lp_back G d (zup I 94 0 (nI 0)) ?_ 1226 0 rfl)
    refine Rn.aload_n dX10_back_41 rfl rfl ?_
    refine Rn.iconst (v := (nI 0)) dX10_back_42 rfl ?_
    refine Rn.putI dX10_back_43 fp_X10_58_9 (by first | rfl | exact gC0 (by assumption) | exact gL0 (by assumption)) rfl ?_
    refine Rn.iconst (v := (nI 1)) dX10_back_46 rfl ?_
    exact Rn.zret dX10_back_47 rfl rfl (⟨by rw [h.resolve_left h1], by rw [if_neg (show ¬ I 94 6 = nI 0 from h1)]; rfl⟩)
  · refine Rn.iconst (v := (nI 0)) dX10_back_12 rfl ?_
    exact Rn.zret dX10_back_13 rfl rfl (⟨by rw [show I 94 6 = nI 0 from h1], by rw [if_pos (show I 94 6 = nI 0 from h1)]⟩)
theorem lp_keepsAll {kx : Kx} {b : Nat} (J : Hi) (k : Rn G GAM mX10_keepsAll kx d b 27 [some (.ref 94), some (.int (nI 377))] [] (zset J 98 (cp (J 95) (J 98) 377))) : ∀ n i : Nat, i + n = 377 → Rn G GAM mX10_keepsAll kx d b 2 [some (.ref 94), some (.int (nI i))] [] (zset J 98 (cp (J 95) (J 98) i)) := by
  intro n
  induction n with
  | zero =>
    intro i hi
    obtain rfl : i = 377 := by omega
    refine Rn.iload_n dX10_keepsAll_2 rfl rfl ?_
    refine Rn.sipush (v := (nI 377)) dX10_keepsAll_3 rfl ?_
    refine Rn.icmp_geN dX10_keepsAll_6 27 (fun _ => ?_) (fun h9 => by exfalso; omega)
    exact k
  | succ n ih =>
    intro i hi
    refine Rn.iload_n dX10_keepsAll_2 rfl rfl ?_
    refine Rn.sipush (v := (nI 377)) dX10_keepsAll_3 rfl ?_
    refine Rn.icmp_geN dX10_keepsAll_6 27 (fun h9 => by exfalso; omega) (fun _ => ?_)
    refine Rn.aload_n dX10_keepsAll_9 rfl rfl ?_
    refine Rn.getR dX10_keepsAll_10 fd_X10_23_9 (by first | rfl | exact gC0 (by assumption) | exact gL0 (by assumption)) rfl ?_
    refine Rn.iload_n dX10_keepsAll_13 rfl rfl ?_
    refine Rn.aload_n dX10_keepsAll_14 rfl rfl ?_
    refine Rn.getR dX10_keepsAll_15 fd_X10_13_9 (by first | rfl | exact gC0 (by assumption) | exact gL0 (by assumption)) rfl ?_
    refine Rn.iload_n dX10_keepsAll_18 rfl rfl ?_
    refine Rn.ialdN dX10_keepsAll_19 (by first | rfl | exact gC1 (by assumption) | exact gC2 (by assumption) | exact gC3 (by assumption) | exact gL1 (by assumption) | exact gL2 (by assumption) | exact gL3 (by assumption) | exact gL4 (by assumption) | exact gL5 (by assumption) | exact gL6 (by assumption)) ?_
    refine Rn.iastN dX10_keepsAll_20 (by first | rfl | exact gC1 (by assumption) | exact gC2 (by assumption) | exact gC3 (by assumption) | exact gL1 (by assumption) | exact gL2 (by assumption) | exact gL3 (by assumption) | exact gL4 (by assumption) | exact gL5 (by assumption) | exact gL6 (by assumption)) ?_
    refine Rn.iincN dX10_keepsAll_21 rfl (by decide) ?_
    refine Rn.goto 2 dX10_keepsAll_24 (by decide) ?_
    exact Rn.hpp _ (by rw [zup_zset]; exact congrArg _ (cp_upd _ _ i)) (ih (i + 1) (by omega))
theorem ct_keepsAll : Ct G GAM mX10_keepsAll d 0 [.ref 94] I (Rp none (zset I 98 (cp (I 95) (I 98) 377))) := by
  refine Ct.mk [some (.ref 94), none] ?_
  refine Rn.iconst (v := (nI 0)) dX10_keepsAll_0 rfl ?_
  refine Rn.istore_n dX10_keepsAll_1 rfl (by decide) ?_
  refine Rn.hpp _ (cp_start _ 98 _) (lp_keepsAll G d I ?_ 377 0 rfl)
  exact Rn.vret dX10_keepsAll_27 rfl (⟨rfl, rfl⟩)
theorem lp_bringsBack {kx : Kx} {b : Nat} (J : Hi) (k : Rn G GAM mX10_bringsBack kx d b 27 [some (.ref 94), some (.int (nI 377))] [] (zset J 95 (cp (J 98) (J 95) 377))) : ∀ n i : Nat, i + n = 377 → Rn G GAM mX10_bringsBack kx d b 2 [some (.ref 94), some (.int (nI i))] [] (zset J 95 (cp (J 98) (J 95) i)) := by
  intro n
  induction n with
  | zero =>
    intro i hi
    obtain rfl : i = 377 := by omega
    refine Rn.iload_n dX10_bringsBack_2 rfl rfl ?_
    refine Rn.sipush (v := (nI 377)) dX10_bringsBack_3 rfl ?_
    refine Rn.icmp_geN dX10_bringsBack_6 27 (fun _ => ?_) (fun h9 => by exfalso; omega)
    exact k
  | succ n ih =>
    intro i hi
    refine Rn.iload_n dX10_bringsBack_2 rfl rfl ?_
    refine Rn.sipush (v := (nI 377)) dX10_bringsBack_3 rfl ?_
    refine Rn.icmp_geN dX10_bringsBack_6 27 (fun h9 => by exfalso; omega) (fun _ => ?_)
    refine Rn.aload_n dX10_bringsBack_9 rfl rfl ?_
    refine Rn.getR dX10_bringsBack_10 fd_X10_13_9 (by first | rfl | exact gC0 (by assumption) | exact gL0 (by assumption)) rfl ?_
    refine Rn.iload_n dX10_bringsBack_13 rfl rfl ?_
    refine Rn.aload_n dX10_bringsBack_14 rfl rfl ?_
    refine Rn.getR dX10_bringsBack_15 fd_X10_23_9 (by first | rfl | exact gC0 (by assumption) | exact gL0 (by assumption)) rfl ?_
    refine Rn.iload_n dX10_bringsBack_18 rfl rfl ?_
    refine Rn.ialdN dX10_bringsBack_19 (by first | rfl | exact gC1 (by assumption) | exact gC2 (by assumption) | exact gC3 (by assumption) | exact gL1 (by assumption) | exact gL2 (by assumption) | exact gL3 (by assumption) | exact gL4 (by assumption) | exact gL5 (by assumption) | exact gL6 (by assumption)) ?_
    refine Rn.iastN dX10_bringsBack_20 (by first | rfl | exact gC1 (by assumption) | exact gC2 (by assumption) | exact gC3 (by assumption) | exact gL1 (by assumption) | exact gL2 (by assumption) | exact gL3 (by assumption) | exact gL4 (by assumption) | exact gL5 (by assumption) | exact gL6 (by assumption)) ?_
    refine Rn.iincN dX10_bringsBack_21 rfl (by decide) ?_
    refine Rn.goto 2 dX10_bringsBack_24 (by decide) ?_
    exact Rn.hpp _ (by rw [zup_zset]; exact congrArg _ (cp_upd _ _ i)) (ih (i + 1) (by omega))
theorem ct_bringsBack : Ct G GAM mX10_bringsBack d 0 [.ref 94] I (Rp none (zset I 95 (cp (I 98) (I 95) 377))) := by
  refine Ct.mk [some (.ref 94), none] ?_
  refine Rn.iconst (v := (nI 0)) dX10_bringsBack_0 rfl ?_
  refine Rn.istore_n dX10_bringsBack_1 rfl (by decide) ?_
  refine Rn.hpp _ (cp_start _ 95 _) (lp_bringsBack G d I ?_ 377 0 rfl)
  exact Rn.vret dX10_bringsBack_27 rfl (⟨rfl, rfl⟩)
theorem ct_luckIn (t : Nat) (h : t < 8) : Ct G GAM mX10_luckIn (d + 2) 0 [.ref 94, .int (nI t)] I (Rp (some (.int (I 95 (65 + 9 * t + 0) + I 95 (65 + 9 * t + 1) + I 95 (65 + 9 * t + 2) + I 95 (65 + 9 * t + 3)))) I) := by
  refine Ct.mk [some (.ref 94), some (.int (nI t)), none, none] ?_
  refine Rn.iconst (v := (nI 0)) dX10_luckIn_0 rfl ?_
  refine Rn.istore_n dX10_luckIn_1 rfl (by decide) ?_
  refine Rn.iconst (v := (nI 0)) dX10_luckIn_2 rfl ?_
  refine Rn.istore_n dX10_luckIn_3 rfl (by decide) ?_
  refine Rn.iload_n dX10_luckIn_4 rfl rfl ?_
  refine Rn.iconst (v := (nI 4)) dX10_luckIn_5 rfl ?_
  refine Rn.icmp_geN dX10_luckIn_6 24 (fun h9 => by exfalso; omega) (fun _ => ?_)
  refine Rn.iload_n dX10_luckIn_9 rfl rfl ?_
  refine Rn.aload_n dX10_luckIn_10 rfl rfl ?_
  refine Rn.iload_n dX10_luckIn_11 rfl rfl ?_
  refine Rn.iload_n dX10_luckIn_12 rfl rfl ?_
  refine Rn.callVp (As := [_, _]) dX10_luckIn_13 mv_X10_71 (by first | rfl | exact gC0 (by assumption) | exact gL0 (by assumption)) rfl rfl rfl (Nat.le_of_ble_eq_true rfl) (ct_ofThing G _ _ _ _ (by omega)) ?_
  refine Rn.iadd dX10_luckIn_16 ?_
  refine Rn.istore_n dX10_luckIn_17 rfl (by decide) ?_
  refine Rn.iincN dX10_luckIn_18 rfl (by decide) ?_
  refine Rn.goto 4 dX10_luckIn_21 (by decide) ?_
  refine Rn.iload_n dX10_luckIn_4 rfl rfl ?_
  refine Rn.iconst (v := (nI 4)) dX10_luckIn_5 rfl ?_
  refine Rn.icmp_geN dX10_luckIn_6 24 (fun h9 => by exfalso; omega) (fun _ => ?_)
  refine Rn.iload_n dX10_luckIn_9 rfl rfl ?_
  refine Rn.aload_n dX10_luckIn_10 rfl rfl ?_
  refine Rn.iload_n dX10_luckIn_11 rfl rfl ?_
  refine Rn.iload_n dX10_luckIn_12 rfl rfl ?_
  refine Rn.callVp (As := [_, _]) dX10_luckIn_13 mv_X10_71 (by first | rfl | exact gC0 (by assumption) | exact gL0 (by assumption)) rfl rfl rfl (Nat.le_of_ble_eq_true rfl) (ct_ofThing G _ _ _ _ (by omega)) ?_
  refine Rn.iadd dX10_luckIn_16 ?_
  refine Rn.istore_n dX10_luckIn_17 rfl (by decide) ?_
  refine Rn.iincN dX10_luckIn_18 rfl (by decide) ?_
  refine Rn.goto 4 dX10_luckIn_21 (by decide) ?_
  refine Rn.iload_n dX10_luckIn_4 rfl rfl ?_
  refine Rn.iconst (v := (nI 4)) dX10_luckIn_5 rfl ?_
  refine Rn.icmp_geN dX10_luckIn_6 24 (fun h9 => by exfalso; omega) (fun _ => ?_)
  refine Rn.iload_n dX10_luckIn_9 rfl rfl ?_
  refine Rn.aload_n dX10_luckIn_10 rfl rfl ?_
  refine Rn.iload_n dX10_luckIn_11 rfl rfl ?_
  refine Rn.iload_n dX10_luckIn_12 rfl rfl ?_
  refine Rn.callVp (As := [_, _]) dX10_luckIn_13 mv_X10_71 (by first | rfl | exact gC0 (by assumption) | exact gL0 (by assumption)) rfl rfl rfl (Nat.le_of_ble_eq_true rfl) (ct_ofThing G _ _ _ _ (by omega)) ?_
  refine Rn.iadd dX10_luckIn_16 ?_
  refine Rn.istore_n dX10_luckIn_17 rfl (by decide) ?_
  refine Rn.iincN dX10_luckIn_18 rfl (by decide) ?_
  refine Rn.goto 4 dX10_luckIn_21 (by decide) ?_
  refine Rn.iload_n dX10_luckIn_4 rfl rfl ?_
  refine Rn.iconst (v := (nI 4)) dX10_luckIn_5 rfl ?_
  refine Rn.icmp_geN dX10_luckIn_6 24 (fun h9 => by exfalso; omega) (fun _ => ?_)
  refine Rn.iload_n dX10_luckIn_9 rfl rfl ?_
  refine Rn.aload_n dX10_luckIn_10 rfl rfl ?_
  refine Rn.iload_n dX10_luckIn_11 rfl rfl ?_
  refine Rn.iload_n dX10_luckIn_12 rfl rfl ?_
  refine Rn.callVp (As := [_, _]) dX10_luckIn_13 mv_X10_71 (by first | rfl | exact gC0 (by assumption) | exact gL0 (by assumption)) rfl rfl rfl (Nat.le_of_ble_eq_true rfl) (ct_ofThing G _ _ _ _ (by omega)) ?_
  refine Rn.iadd dX10_luckIn_16 ?_
  refine Rn.istore_n dX10_luckIn_17 rfl (by decide) ?_
  refine Rn.iincN dX10_luckIn_18 rfl (by decide) ?_
  refine Rn.goto 4 dX10_luckIn_21 (by decide) ?_
  refine Rn.iload_n dX10_luckIn_4 rfl rfl ?_
  refine Rn.iconst (v := (nI 4)) dX10_luckIn_5 rfl ?_
  refine Rn.icmp_geN dX10_luckIn_6 24 (fun _ => ?_) (fun h9 => by exfalso; omega)
  refine Rn.iload_n dX10_luckIn_24 rfl rfl ?_
  exact Rn.iret dX10_luckIn_25 rfl (⟨by rw [show nI 0 = 0 from rfl, Int32.zero_add], rfl⟩)
def lkT (W : Nat → Int32) (t : Nat) : Int32 := W (65 + 9 * t + 0) + W (65 + 9 * t + 1) + W (65 + 9 * t + 2) + W (65 + 9 * t + 3)
def lkW (W : Nat → Int32) (w : Nat) : Int32 := W (9 + 7 * w + 0) + W (9 + 7 * w + 1) + W (9 + 7 * w + 2) + W (9 + 7 * w + 3)
theorem ct_worthOf (t : Nat) (h : t < 8) : Ct G GAM mX10_worthOf (d + 3) 0 [.ref 94, .int (nI t)] I (Rp (some (.int (lkT (I 95) t - I 95 (65 + 9 * t + 6)))) I) := by
  refine Ct.mk [some (.ref 94), some (.int (nI t))] ?_
  refine Rn.aload_n dX10_worthOf_0 rfl rfl ?_
  refine Rn.iload_n dX10_worthOf_1 rfl rfl ?_
  refine Rn.callVp (As := [_]) dX10_worthOf_2 mv_X10_272 (by first | rfl | exact gC0 (by assumption) | exact gL0 (by assumption)) rfl rfl rfl (Nat.le_of_ble_eq_true rfl) (ct_luckIn G _ _ _ (by omega)) ?_
  refine Rn.aload_n dX10_worthOf_5 rfl rfl ?_
  refine Rn.iload_n dX10_worthOf_6 rfl rfl ?_
  refine Rn.bipush (v := (nI 6)) dX10_worthOf_7 rfl ?_
  refine Rn.callVp (As := [_, _]) dX10_worthOf_9 mv_X10_71 (by first | rfl | exact gC0 (by assumption) | exact gL0 (by assumption)) rfl rfl rfl (Nat.le_of_ble_eq_true rfl) (ct_ofThing G _ _ _ _ (by omega)) ?_
  refine Rn.isub dX10_worthOf_12 ?_
  exact Rn.iret dX10_worthOf_13 rfl (⟨rfl, rfl⟩)
theorem ct_ofLog (k c : Nat) (h : k < 60) (hc : c < 4) : Ct G GAM mX10_ofLog d 0 [.ref 94, .int (nI k), .int (nI c)] I (Rp (some (.int (I 95 (137 + 4 * k + c)))) I) := by
  refine Ct.mk [some (.ref 94), some (.int (nI k)), some (.int (nI c))] ?_
  refine Rn.aload_n dX10_ofLog_0 rfl rfl ?_
  refine Rn.getR dX10_ofLog_1 fd_X10_13_9 (by first | rfl | exact gC0 (by assumption) | exact gL0 (by assumption)) rfl ?_
  refine Rn.sipush (v := (nI 137)) dX10_ofLog_4 rfl ?_
  refine Rn.iconst (v := (nI 4)) dX10_ofLog_7 rfl ?_
  refine Rn.iload_n dX10_ofLog_8 rfl rfl ?_
  refine Rn.imul dX10_ofLog_9 ?_
  refine Rn.iadd dX10_ofLog_10 ?_
  refine Rn.iload_n dX10_ofLog_11 rfl rfl ?_
  refine Rn.iadd dX10_ofLog_12 ?_
  refine Rn.topI (nI (137 + 4 * k + c)) (by first | rfl | (simp only [nI_add, pk_mul, nI_1]; done) | (simp only [nI_add, pk_mul, nI_1]; congr 1; omega)) ?_
  refine Rn.ialdN dX10_ofLog_13 (by first | rfl | exact gC1 (by assumption) | exact gC2 (by assumption) | exact gC3 (by assumption) | exact gL1 (by assumption) | exact gL2 (by assumption) | exact gL3 (by assumption) | exact gL4 (by assumption) | exact gL5 (by assumption) | exact gL6 (by assumption)) ?_
  exact Rn.iret dX10_ofLog_14 rfl (⟨rfl, rfl⟩)
theorem ct_has (s k : Int32) : Ct G GAM mX10_has d 0 [.int s, .int k] I (Rp (some (.int (bI ((s >>> (k &&& 31)) &&& nI 1 = nI 1)))) I) := by
  refine Ct.mk [some (.int s), some (.int k)] ?_
  refine Rn.iload_n dX10_has_0 rfl rfl ?_
  refine Rn.iload_n dX10_has_1 rfl rfl ?_
  refine Rn.ishr dX10_has_2 ?_
  refine Rn.iconst (v := (nI 1)) dX10_has_3 rfl ?_
  refine Rn.iand dX10_has_4 ?_
  refine Rn.iconst (v := (nI 1)) dX10_has_5 rfl ?_
  refine Rn.icmp_ne (tgt := 13) dX10_has_6 (by decide) (fun h1 => ?_) (fun h1 => ?_)
  · refine Rn.iconst (v := (nI 0)) dX10_has_13 rfl ?_
    exact Rn.zret dX10_has_14 rfl rfl (⟨by rw [bI_f h1]; rfl, rfl⟩)
  · refine Rn.iconst (v := (nI 1)) dX10_has_9 rfl ?_
    refine Rn.goto 14 dX10_has_10 (by decide) ?_
    exact Rn.zret dX10_has_14 rfl rfl (⟨by rw [bI_t h1]; rfl, rfl⟩)
theorem ct_allWomen : Ct G GAM mX10_allWomen (d + 1) 0 [.ref 94] I (Rp (some (.int ((nI 1 <<< (I 95 0 &&& 31)) - nI 1))) I) := by
  refine Ct.mk [some (.ref 94)] ?_
  refine Rn.iconst (v := (nI 1)) dX10_allWomen_0 rfl ?_
  refine Rn.aload_n dX10_allWomen_1 rfl rfl ?_
  refine Rn.callVp (As := []) dX10_allWomen_2 mv_X10_74 (by first | rfl | exact gC0 (by assumption) | exact gL0 (by assumption)) rfl rfl rfl (Nat.le_of_ble_eq_true rfl) (ct_women G _ _) ?_
  refine Rn.ishl dX10_allWomen_5 ?_
  refine Rn.iconst (v := (nI 1)) dX10_allWomen_6 rfl ?_
  refine Rn.isub dX10_allWomen_7 ?_
  exact Rn.iret dX10_allWomen_8 rfl (⟨rfl, rfl⟩)
def sumW (W : Nat → Int32) : Nat → Int32
  | 0 => 0
  | n + 1 => sumW W n + lkW W n
theorem lp_luckOfAll {kx : Kx} {b : Nat} (N : Nat) (hN : N ≤ 8) (hW : I 95 0 = nI N) (k : Rn G GAM mX10_luckOfAll kx (d + 3) b 26 [some (.ref 94), some (.int (sumW (I 95) N)), some (.int (nI N))] [] I) : ∀ n i : Nat, i + n = N → Rn G GAM mX10_luckOfAll kx (d + 3) b 4 [some (.ref 94), some (.int (sumW (I 95) i)), some (.int (nI i))] [] I := by
  intro n
  induction n with
  | zero =>
    intro i hi
    obtain rfl : i = N := by omega
    refine Rn.iload_n dX10_luckOfAll_4 rfl rfl ?_
    refine Rn.aload_n dX10_luckOfAll_5 rfl rfl ?_
    refine Rn.callVp (As := []) dX10_luckOfAll_6 mv_X10_74 (by first | rfl | exact gC0 (by assumption) | exact gL0 (by assumption)) rfl rfl rfl (Nat.le_of_ble_eq_true rfl) (ct_women G _ _) ?_
    refine Rn.topI (nI i) hW ?_
    refine Rn.icmp_geN dX10_luckOfAll_9 26 (fun _ => ?_) (fun h9 => by exfalso; omega)
    exact k
  | succ n ih =>
    intro i hi
    refine Rn.iload_n dX10_luckOfAll_4 rfl rfl ?_
    refine Rn.aload_n dX10_luckOfAll_5 rfl rfl ?_
    refine Rn.callVp (As := []) dX10_luckOfAll_6 mv_X10_74 (by first | rfl | exact gC0 (by assumption) | exact gL0 (by assumption)) rfl rfl rfl (Nat.le_of_ble_eq_true rfl) (ct_women G _ _) ?_
    refine Rn.topI (nI N) hW ?_
    refine Rn.icmp_geN dX10_luckOfAll_9 26 (fun h9 => by exfalso; omega) (fun _ => ?_)
    refine Rn.iload_n dX10_luckOfAll_12 rfl rfl ?_
    refine Rn.aload_n dX10_luckOfAll_13 rfl rfl ?_
    refine Rn.iload_n dX10_luckOfAll_14 rfl rfl ?_
    refine Rn.callVp (As := [_]) dX10_luckOfAll_15 mv_X10_281 (by first | rfl | exact gC0 (by assumption) | exact gL0 (by assumption)) rfl rfl rfl (Nat.le_of_ble_eq_true rfl) (ct_luckOf G _ _ _ (by omega)) ?_
    refine Rn.iadd dX10_luckOfAll_18 ?_
    refine Rn.istore_n dX10_luckOfAll_19 rfl (by decide) ?_
    refine Rn.iincN dX10_luckOfAll_20 rfl (by decide) ?_
    refine Rn.goto 4 dX10_luckOfAll_23 (by decide) ?_
    exact ih (i + 1) (by omega)
theorem ct_luckOfAll (N : Nat) (hN : N ≤ 8) (hW : I 95 0 = nI N) : Ct G GAM mX10_luckOfAll (d + 3) 0 [.ref 94] I (Rp (some (.int (sumW (I 95) N))) I) := by
  refine Ct.mk [some (.ref 94), none, none] ?_
  refine Rn.iconst (v := (nI 0)) dX10_luckOfAll_0 rfl ?_
  refine Rn.istore_n dX10_luckOfAll_1 rfl (by decide) ?_
  refine Rn.iconst (v := (nI 0)) dX10_luckOfAll_2 rfl ?_
  refine Rn.istore_n dX10_luckOfAll_3 rfl (by decide) ?_
  refine lp_luckOfAll G d I N hN hW ?_ N 0 (by omega)
  refine Rn.iload_n dX10_luckOfAll_26 rfl rfl ?_
  exact Rn.iret dX10_luckOfAll_27 rfl (⟨rfl, rfl⟩)
theorem ct_isStuckElsewhere (t : Nat) (w : Int32) (h : t < 8) : Ct G GAM mX10_isStuckElsewhere (d + 3) 0 [.ref 94, .int (nI t), .int w] I (Rp (some (.int (bI (I 95 (65 + 9 * t + 7) = nI 1 ∧ ¬ I 95 (65 + 9 * t + 5) = w)))) I) := by
  refine Ct.mk [some (.ref 94), some (.int (nI t)), some (.int w)] ?_
  refine Rn.aload_n dX10_isStuckElsewhere_0 rfl rfl ?_
  refine Rn.iload_n dX10_isStuckElsewhere_1 rfl rfl ?_
  refine Rn.callVp (As := [_]) dX10_isStuckElsewhere_2 mv_X10_302 (by first | rfl | exact gC0 (by assumption) | exact gL0 (by assumption)) rfl rfl rfl (Nat.le_of_ble_eq_true rfl) (ct_isStuck G _ _ _ (by omega)) ?_
  refine Rn.if_eqB dX10_isStuckElsewhere_5 22 (fun h1 => ?_) (fun h1 => ?_)
  · refine Rn.iconst (v := (nI 0)) dX10_isStuckElsewhere_22 rfl ?_
    exact Rn.zret dX10_isStuckElsewhere_23 rfl rfl (⟨by rw [bI_f (fun q => h1 q.1)]; rfl, rfl⟩)
  · refine Rn.aload_n dX10_isStuckElsewhere_8 rfl rfl ?_
    refine Rn.iload_n dX10_isStuckElsewhere_9 rfl rfl ?_
    refine Rn.iconst (v := (nI 5)) dX10_isStuckElsewhere_10 rfl ?_
    refine Rn.callVp (As := [_, _]) dX10_isStuckElsewhere_11 mv_X10_71 (by first | rfl | exact gC0 (by assumption) | exact gL0 (by assumption)) rfl rfl rfl (Nat.le_of_ble_eq_true rfl) (ct_ofThing G _ _ _ _ (by omega)) ?_
    refine Rn.iload_n dX10_isStuckElsewhere_14 rfl rfl ?_
    refine Rn.icmp_eq (tgt := 22) dX10_isStuckElsewhere_15 (by decide) (fun h2 => ?_) (fun h2 => ?_)
    · refine Rn.iconst (v := (nI 0)) dX10_isStuckElsewhere_22 rfl ?_
      exact Rn.zret dX10_isStuckElsewhere_23 rfl rfl (⟨by rw [bI_f (fun q => q.2 h2)]; rfl, rfl⟩)
    · refine Rn.iconst (v := (nI 1)) dX10_isStuckElsewhere_18 rfl ?_
      refine Rn.goto 23 dX10_isStuckElsewhere_19 (by decide) ?_
      exact Rn.zret dX10_isStuckElsewhere_23 rfl rfl (⟨by rw [bI_t ⟨h1, h2⟩]; rfl, rfl⟩)
theorem ct_mayHave (t : Nat) (w : Int32) (h : t < 8) : Ct G GAM mX10_mayHave (d + 4) 0 [.ref 94, .int (nI t), .int w] I (Rp (some (.int (bI (¬ I 95 (65 + 9 * t + 5) = -1 ∧ ¬ (I 95 (65 + 9 * t + 7) = nI 1 ∧ ¬ I 95 (65 + 9 * t + 5) = w))))) I) := by
  refine Ct.mk [some (.ref 94), some (.int (nI t)), some (.int w)] ?_
  refine Rn.aload_n dX10_mayHave_0 rfl rfl ?_
  refine Rn.iload_n dX10_mayHave_1 rfl rfl ?_
  refine Rn.callVp (As := [_]) dX10_mayHave_2 mv_X10_305 (by first | rfl | exact gC0 (by assumption) | exact gL0 (by assumption)) rfl rfl rfl (Nat.le_of_ble_eq_true rfl) (ct_isPawned G _ _ _ (by omega)) ?_
  refine Rn.if_neB dX10_mayHave_5 21 (fun h1 => ?_) (fun h1 => ?_)
  · refine Rn.iconst (v := (nI 0)) dX10_mayHave_21 rfl ?_
    exact Rn.zret dX10_mayHave_22 rfl rfl (⟨by rw [bI_f (fun q => q.1 h1)]; rfl, rfl⟩)
  · refine Rn.aload_n dX10_mayHave_8 rfl rfl ?_
    refine Rn.iload_n dX10_mayHave_9 rfl rfl ?_
    refine Rn.iload_n dX10_mayHave_10 rfl rfl ?_
    refine Rn.callVp (As := [_, _]) dX10_mayHave_11 mv_X10_308 (by first | rfl | exact gC0 (by assumption) | exact gL0 (by assumption)) rfl rfl rfl (Nat.le_of_ble_eq_true rfl) (ct_isStuckElsewhere G _ _ _ _ (by omega)) ?_
    refine Rn.if_neB dX10_mayHave_14 21 (fun h2 => ?_) (fun h2 => ?_)
    · refine Rn.iconst (v := (nI 0)) dX10_mayHave_21 rfl ?_
      exact Rn.zret dX10_mayHave_22 rfl rfl (⟨by rw [bI_f (fun q => q.2 h2)]; rfl, rfl⟩)
    · refine Rn.iconst (v := (nI 1)) dX10_mayHave_17 rfl ?_
      refine Rn.goto 22 dX10_mayHave_18 (by decide) ?_
      exact Rn.zret dX10_mayHave_22 rfl rfl (⟨by rw [bI_t ⟨h1, h2⟩]; rfl, rfl⟩)
end RefB
