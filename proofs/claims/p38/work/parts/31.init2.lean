abbrev mX4_init : Ym := (yX4_init, cX4_init, 3, none)
theorem dX4_init_0 : decode cX4_init 0 = .ok (.aload_n 0, 1) := by decide +kernel
theorem dX4_init_1 : decode cX4_init 1 = .ok (.invokespecial 1, 3) := by decide +kernel
theorem wi_282 : Cond.methodLink RX4 1 Lib.objectInit ∈ WA := zin 282 (by decide +kernel) (by decide +kernel)
theorem ob_X4_1 : zOb RX4 1 := ⟨wi_282, wi_132, wi_133⟩
theorem dX4_init_4 : decode cX4_init 4 = .ok (.aload_n 0, 1) := by decide +kernel
theorem dX4_init_5 : decode cX4_init 5 = .ok (.aload_n 1, 1) := by decide +kernel
theorem dX4_init_6 : decode cX4_init 6 = .ok (.putfield 7, 3) := by decide +kernel
theorem uw_X1 : ∀ w ∈ u_ws RX1 TX1 3, w ∈ WA := by decide +kernel
theorem wi_285 : Cond.fieldLink RX4 7 "BorrowedLuck$LineReader" "tape" "LBorrowedLuck$Tape;" ∈ WA := zin 285 (by decide +kernel) (by decide +kernel)
theorem fp_X4_7_1 : zFf RX4 7 1 1 (.object "BorrowedLuck$Tape") := ⟨RX1, TX1, 3, "BorrowedLuck$LineReader", tyX1, rfl, by decide, uw_X1, Or.inl rfl, Or.inl wi_285, tyX1_ok, nmX1, rfl, rfl, by decide +kernel⟩
theorem dX4_init_9 : decode cX4_init 9 = .ok (.aload_n 0, 1) := by decide +kernel
theorem dX4_init_10 : decode cX4_init 10 = .ok (.iload_n 2, 1) := by decide +kernel
theorem dX4_init_11 : decode cX4_init 11 = .ok (.putfield 13, 3) := by decide +kernel
theorem wi_284 : Cond.fieldLink RX4 13 "BorrowedLuck$LineReader" "most" "I" ∈ WA := zin 284 (by decide +kernel) (by decide +kernel)
theorem fp_X4_13_1 : zFf RX4 13 1 0 .int := ⟨RX1, TX1, 3, "BorrowedLuck$LineReader", tyX1, rfl, by decide, uw_X1, Or.inl rfl, Or.inl wi_284, tyX1_ok, nmX1, rfl, rfl, by decide +kernel⟩
theorem dX4_init_14 : decode cX4_init 14 = .ok (.return_, 1) := by decide +kernel
theorem uw_X3 : ∀ w ∈ u_ws RX3 TX3 3, w ∈ WA := by decide +kernel
theorem fp_X4_7_3 : zFf RX4 7 3 1 (.object "BorrowedLuck$Tape") := ⟨RX3, TX3, 3, "BorrowedLuck$LineReader", tyX3, rfl, by decide, uw_X3, Or.inl rfl, Or.inl wi_285, tyX3_ok, nmX3, rfl, rfl, by decide +kernel⟩
theorem fp_X4_13_3 : zFf RX4 13 3 0 .int := ⟨RX3, TX3, 3, "BorrowedLuck$LineReader", tyX3, rfl, by decide, uw_X3, Or.inl rfl, Or.inl wi_284, tyX3_ok, nmX3, rfl, rfl, by decide +kernel⟩
abbrev mX1_init : Ym := (yX1_init, cX1_init, 3, none)
theorem dX1_init_0 : decode cX1_init 0 = .ok (.aload_n 0, 1) := by decide +kernel
theorem dX1_init_1 : decode cX1_init 1 = .ok (.aload_n 1, 1) := by decide +kernel
theorem dX1_init_2 : decode cX1_init 2 = .ok (.bipush 14, 2) := by decide +kernel
theorem dX1_init_4 : decode cX1_init 4 = .ok (.invokespecial 3, 3) := by decide +kernel
theorem wi_279 : Cond.methodLink RX1 3 yX4_init ∈ WA := zin 279 (by decide +kernel) (by decide +kernel)
theorem wi_105 : Cond.initialized RX4 ∈ WA := zin 105 (by decide +kernel) (by decide +kernel)
theorem wi_281 : Cond.code yX4_init cX4_init 3 (none) ∈ WA := zin 281 (by decide +kernel) (by decide +kernel)
theorem wi_280 : Cond.instanceMethod yX4_init ∈ WA := zin 280 (by decide +kernel) (by decide +kernel)
theorem mi_X1_3 : zMi RX1 3 mX4_init 2 := ⟨⟨wi_279, wi_105, wi_281, by decide, by decide +kernel⟩, rfl, wi_280⟩
theorem dX1_init_7 : decode cX1_init 7 = .ok (.aload_n 0, 1) := by decide +kernel
theorem dX1_init_8 : decode cX1_init 8 = .ok (.aload_n 2, 1) := by decide +kernel
theorem dX1_init_9 : decode cX1_init 9 = .ok (.putfield 9, 3) := by decide +kernel
theorem wi_283 : Cond.fieldLink RX1 9 "BorrowedLuck$CoastReader" "told" "LBorrowedLuck$Coast;" ∈ WA := zin 283 (by decide +kernel) (by decide +kernel)
theorem fp_X1_9_1 : zFf RX1 9 1 2 (.object "BorrowedLuck$Coast") := ⟨RX1, TX1, 3, "BorrowedLuck$CoastReader", tyX1, rfl, by decide, uw_X1, Or.inl rfl, Or.inl wi_283, tyX1_ok, nmX1, rfl, rfl, by decide +kernel⟩
theorem dX1_init_12 : decode cX1_init 12 = .ok (.return_, 1) := by decide +kernel
abbrev mX3_init : Ym := (yX3_init, cX3_init, 3, none)
theorem dX3_init_0 : decode cX3_init 0 = .ok (.aload_n 0, 1) := by decide +kernel
theorem dX3_init_1 : decode cX3_init 1 = .ok (.aload_n 1, 1) := by decide +kernel
theorem dX3_init_2 : decode cX3_init 2 = .ok (.bipush 12, 2) := by decide +kernel
theorem dX3_init_4 : decode cX3_init 4 = .ok (.invokespecial 3, 3) := by decide +kernel
theorem wi_302 : Cond.methodLink RX3 3 yX4_init ∈ WA := zin 302 (by decide +kernel) (by decide +kernel)
theorem mi_X3_3 : zMi RX3 3 mX4_init 2 := ⟨⟨wi_302, wi_105, wi_281, by decide, by decide +kernel⟩, rfl, wi_280⟩
theorem dX3_init_7 : decode cX3_init 7 = .ok (.aload_n 0, 1) := by decide +kernel
theorem dX3_init_8 : decode cX3_init 8 = .ok (.aload_n 2, 1) := by decide +kernel
theorem dX3_init_9 : decode cX3_init 9 = .ok (.putfield 9, 3) := by decide +kernel
theorem wi_303 : Cond.fieldLink RX3 9 "BorrowedLuck$LawReader" "told" "LBorrowedLuck$Law;" ∈ WA := zin 303 (by decide +kernel) (by decide +kernel)
theorem fp_X3_9_3 : zFf RX3 9 3 2 (.object "BorrowedLuck$Law") := ⟨RX3, TX3, 3, "BorrowedLuck$LawReader", tyX3, rfl, by decide, uw_X3, Or.inl rfl, Or.inl wi_303, tyX3_ok, nmX3, rfl, rfl, by decide +kernel⟩
theorem dX3_init_12 : decode cX3_init 12 = .ok (.return_, 1) := by decide +kernel
abbrev mX7_init : Ym := (yX7_init, cX7_init, 3, none)
theorem dX7_init_0 : decode cX7_init 0 = .ok (.aload_n 0, 1) := by decide +kernel
theorem dX7_init_1 : decode cX7_init 1 = .ok (.invokespecial 3, 3) := by decide +kernel
theorem wi_314 : Cond.methodLink RX7 3 Lib.objectInit ∈ WA := zin 314 (by decide +kernel) (by decide +kernel)
theorem ob_X7_3 : zOb RX7 3 := ⟨wi_314, wi_132, wi_133⟩
theorem dX7_init_4 : decode cX7_init 4 = .ok (.aload_n 0, 1) := by decide +kernel
theorem dX7_init_5 : decode cX7_init 5 = .ok (.bipush 8, 2) := by decide +kernel
theorem dX7_init_7 : decode cX7_init 7 = .ok (.newarray .int, 2) := by decide +kernel
theorem dX7_init_9 : decode cX7_init 9 = .ok (.putfield 9, 3) := by decide +kernel
theorem uw_X7 : ∀ w ∈ u_ws RX7 TX7 8, w ∈ WA := by decide +kernel
theorem wi_320 : Cond.fieldLink RX7 9 "BorrowedLuck$Search" "set" "[I" ∈ WA := zin 320 (by decide +kernel) (by decide +kernel)
theorem fp_X7_9_6 : zFf RX7 9 6 4 (.array .int) := ⟨RX7, TX7, 8, "BorrowedLuck$Search", tyX7, rfl, by decide, uw_X7, Or.inl rfl, Or.inl wi_320, tyX7_ok, nmX7, rfl, rfl, by decide +kernel⟩
theorem dX7_init_12 : decode cX7_init 12 = .ok (.aload_n 0, 1) := by decide +kernel
theorem dX7_init_13 : decode cX7_init 13 = .ok (.bipush 8, 2) := by decide +kernel
theorem dX7_init_15 : decode cX7_init 15 = .ok (.newarray .int, 2) := by decide +kernel
theorem dX7_init_17 : decode cX7_init 17 = .ok (.putfield 15, 3) := by decide +kernel
theorem wi_321 : Cond.fieldLink RX7 15 "BorrowedLuck$Search" "way" "[I" ∈ WA := zin 321 (by decide +kernel) (by decide +kernel)
theorem fp_X7_15_6 : zFf RX7 15 6 5 (.array .int) := ⟨RX7, TX7, 8, "BorrowedLuck$Search", tyX7, rfl, by decide, uw_X7, Or.inl rfl, Or.inl wi_321, tyX7_ok, nmX7, rfl, rfl, by decide +kernel⟩
theorem dX7_init_20 : decode cX7_init 20 = .ok (.aload_n 0, 1) := by decide +kernel
theorem dX7_init_21 : decode cX7_init 21 = .ok (.bipush 8, 2) := by decide +kernel
theorem dX7_init_23 : decode cX7_init 23 = .ok (.newarray .int, 2) := by decide +kernel
theorem dX7_init_25 : decode cX7_init 25 = .ok (.putfield 18, 3) := by decide +kernel
theorem wi_322 : Cond.fieldLink RX7 18 "BorrowedLuck$Search" "bestWay" "[I" ∈ WA := zin 322 (by decide +kernel) (by decide +kernel)
theorem fp_X7_18_6 : zFf RX7 18 6 6 (.array .int) := ⟨RX7, TX7, 8, "BorrowedLuck$Search", tyX7, rfl, by decide, uw_X7, Or.inl rfl, Or.inl wi_322, tyX7_ok, nmX7, rfl, rfl, by decide +kernel⟩
theorem dX7_init_28 : decode cX7_init 28 = .ok (.aload_n 0, 1) := by decide +kernel
theorem dX7_init_29 : decode cX7_init 29 = .ok (.bipush 64, 2) := by decide +kernel
theorem dX7_init_31 : decode cX7_init 31 = .ok (.newarray .int, 2) := by decide +kernel
theorem dX7_init_33 : decode cX7_init 33 = .ok (.putfield 21, 3) := by decide +kernel
theorem wi_323 : Cond.fieldLink RX7 21 "BorrowedLuck$Search" "gains" "[I" ∈ WA := zin 323 (by decide +kernel) (by decide +kernel)
theorem fp_X7_21_6 : zFf RX7 21 6 7 (.array .int) := ⟨RX7, TX7, 8, "BorrowedLuck$Search", tyX7, rfl, by decide, uw_X7, Or.inl rfl, Or.inl wi_323, tyX7_ok, nmX7, rfl, rfl, by decide +kernel⟩
theorem dX7_init_36 : decode cX7_init 36 = .ok (.aload_n 0, 1) := by decide +kernel
theorem dX7_init_37 : decode cX7_init 37 = .ok (.aload_n 1, 1) := by decide +kernel
theorem dX7_init_38 : decode cX7_init 38 = .ok (.putfield 24, 3) := by decide +kernel
theorem wi_315 : Cond.fieldLink RX7 24 "BorrowedLuck$Search" "rites" "LBorrowedLuck$Rites;" ∈ WA := zin 315 (by decide +kernel) (by decide +kernel)
theorem fp_X7_24_6 : zFf RX7 24 6 0 (.object "BorrowedLuck$Rites") := ⟨RX7, TX7, 8, "BorrowedLuck$Search", tyX7, rfl, by decide, uw_X7, Or.inl rfl, Or.inl wi_315, tyX7_ok, nmX7, rfl, rfl, by decide +kernel⟩
theorem dX7_init_41 : decode cX7_init 41 = .ok (.aload_n 0, 1) := by decide +kernel
theorem dX7_init_42 : decode cX7_init 42 = .ok (.aload_n 2, 1) := by decide +kernel
theorem dX7_init_43 : decode cX7_init 43 = .ok (.putfield 28, 3) := by decide +kernel
theorem wi_316 : Cond.fieldLink RX7 28 "BorrowedLuck$Search" "tried" "LBorrowedLuck$Coast;" ∈ WA := zin 316 (by decide +kernel) (by decide +kernel)
theorem fp_X7_28_6 : zFf RX7 28 6 1 (.object "BorrowedLuck$Coast") := ⟨RX7, TX7, 8, "BorrowedLuck$Search", tyX7, rfl, by decide, uw_X7, Or.inl rfl, Or.inl wi_316, tyX7_ok, nmX7, rfl, rfl, by decide +kernel⟩
theorem dX7_init_46 : decode cX7_init 46 = .ok (.return_, 1) := by decide +kernel
abbrev mX5_init : Ym := (yX5_init, cX5_init, 2, none)
theorem dX5_init_0 : decode cX5_init 0 = .ok (.aload_n 0, 1) := by decide +kernel
theorem dX5_init_1 : decode cX5_init 1 = .ok (.invokespecial 3, 3) := by decide +kernel
theorem wi_346 : Cond.methodLink RX5 3 Lib.objectInit ∈ WA := zin 346 (by decide +kernel) (by decide +kernel)
theorem ob_X5_3 : zOb RX5 3 := ⟨wi_346, wi_132, wi_133⟩
theorem dX5_init_4 : decode cX5_init 4 = .ok (.aload_n 0, 1) := by decide +kernel
theorem dX5_init_5 : decode cX5_init 5 = .ok (.bipush 12, 2) := by decide +kernel
theorem dX5_init_7 : decode cX5_init 7 = .ok (.anewarray 9, 3) := by decide +kernel
theorem wi_347 : Cond.classLink RX5 9 "BorrowedLuck$Coast" ∈ WA := zin 347 (by decide +kernel) (by decide +kernel)
theorem dX5_init_10 : decode cX5_init 10 = .ok (.putfield 11, 3) := by decide +kernel
theorem uw_X5 : ∀ w ∈ u_ws RX5 TX5 3, w ∈ WA := by decide +kernel
theorem wi_350 : Cond.fieldLink RX5 11 "BorrowedLuck$Memory" "ahead" "[LBorrowedLuck$Coast;" ∈ WA := zin 350 (by decide +kernel) (by decide +kernel)
theorem fp_X5_11_4 : zFf RX5 11 4 0 (.array (.object "BorrowedLuck$Coast")) := ⟨RX5, TX5, 3, "BorrowedLuck$Memory", tyX5, rfl, by decide, uw_X5, Or.inl rfl, Or.inl wi_350, tyX5_ok, nmX5, rfl, rfl, by decide +kernel⟩
theorem dX5_init_13 : decode cX5_init 13 = .ok (.iconst 0, 1) := by decide +kernel
theorem dX5_init_14 : decode cX5_init 14 = .ok (.istore_n 1, 1) := by decide +kernel
theorem dX5_init_15 : decode cX5_init 15 = .ok (.iload_n 1, 1) := by decide +kernel
theorem dX5_init_16 : decode cX5_init 16 = .ok (.bipush 12, 2) := by decide +kernel
theorem dX5_init_18 : decode cX5_init 18 = .ok (.if_icmp .ge 22, 3) := by decide +kernel
theorem dX5_init_21 : decode cX5_init 21 = .ok (.aload_n 0, 1) := by decide +kernel
theorem dX5_init_22 : decode cX5_init 22 = .ok (.getfield 11, 3) := by decide +kernel
theorem fd_X5_11_4 : zFd RX5 11 4 0 := ⟨RX5, TX5, 3, "BorrowedLuck$Memory", rfl, by decide, uw_X5, Or.inl rfl, Or.inl wi_350⟩
theorem dX5_init_25 : decode cX5_init 25 = .ok (.iload_n 1, 1) := by decide +kernel
theorem dX5_init_26 : decode cX5_init 26 = .ok (.new 9, 3) := by decide +kernel
theorem wi_169 : Cond.instantiable RX0 12 ∈ WA := zin 169 (by decide +kernel) (by decide +kernel)
theorem wi_102 : Cond.initialized RX0 ∈ WA := zin 102 (by decide +kernel) (by decide +kernel)
theorem nw_X5_9 : zNw RX5 9 0 12 [none, none, none, none, none, none, none, none, none, some none, some none, some none] := ⟨RX0, TX0, tyX0, rfl, uw_X0, tyX0_ok, wi_347, wi_169, wi_102, rfl, by decide +kernel⟩
theorem dX5_init_29 : decode cX5_init 29 = .ok (.dup, 1) := by decide +kernel
theorem dX5_init_30 : decode cX5_init 30 = .ok (.invokespecial 17, 3) := by decide +kernel
theorem wi_172 : Cond.code yX0_init cX0_init 1 (none) ∈ WA := zin 172 (by decide +kernel) (by decide +kernel)
theorem wi_171 : Cond.instanceMethod yX0_init ∈ WA := zin 171 (by decide +kernel) (by decide +kernel)
theorem mi_X5_17 : zMn RX5 17 mX0_init 0 := ⟨⟨"BorrowedLuck", by decide +kernel⟩, wi_102, wi_172, by decide, by decide +kernel, rfl, wi_171⟩
theorem dX5_init_33 : decode cX5_init 33 = .ok (.aastore, 1) := by decide +kernel
theorem dX5_init_34 : decode cX5_init 34 = .ok (.iinc 1 1, 3) := by decide +kernel
theorem dX5_init_37 : decode cX5_init 37 = .ok (.goto (-22), 3) := by decide +kernel
theorem dX5_init_40 : decode cX5_init 40 = .ok (.return_, 1) := by decide +kernel
abbrev mX9_init : Ym := (yX9_init, cX9_init, 1, none)
theorem dX9_init_0 : decode cX9_init 0 = .ok (.aload_n 0, 1) := by decide +kernel
theorem dX9_init_1 : decode cX9_init 1 = .ok (.invokespecial 1, 3) := by decide +kernel
theorem wi_131 : Cond.methodLink RX9 1 Lib.objectInit ∈ WA := zin 131 (by decide +kernel) (by decide +kernel)
theorem ob_X9_1 : zOb RX9 1 := ⟨wi_131, wi_132, wi_133⟩
theorem dX9_init_4 : decode cX9_init 4 = .ok (.aload_n 0, 1) := by decide +kernel
theorem dX9_init_5 : decode cX9_init 5 = .ok (.new 7, 3) := by decide +kernel
theorem wi_134 : Cond.classLink RX9 7 RX8 ∈ WA := zin 134 (by decide +kernel) (by decide +kernel)
theorem wi_135 : Cond.instantiable RX8 7 ∈ WA := zin 135 (by decide +kernel) (by decide +kernel)
theorem wi_101 : Cond.initialized RX8 ∈ WA := zin 101 (by decide +kernel) (by decide +kernel)
theorem nw_X9_7 : zNw RX9 7 7 7 [some none, none, none, none, none, none, none] := ⟨RX8, TX8, tyX8, rfl, uw_X8, tyX8_ok, wi_134, wi_135, wi_101, rfl, by decide +kernel⟩
theorem dX9_init_8 : decode cX9_init 8 = .ok (.dup, 1) := by decide +kernel
theorem dX9_init_9 : decode cX9_init 9 = .ok (.invokespecial 9, 3) := by decide +kernel
theorem wi_138 : Cond.code yX8_init cX8_init 1 (none) ∈ WA := zin 138 (by decide +kernel) (by decide +kernel)
theorem wi_137 : Cond.instanceMethod yX8_init ∈ WA := zin 137 (by decide +kernel) (by decide +kernel)
theorem mi_X9_9 : zMn RX9 9 mX8_init 0 := ⟨⟨"BorrowedLuck", by decide +kernel⟩, wi_101, wi_138, by decide, by decide +kernel, rfl, wi_137⟩
theorem dX9_init_12 : decode cX9_init 12 = .ok (.putfield 10, 3) := by decide +kernel
theorem uw_X9 : ∀ w ∈ u_ws RX9 TX9 13, w ∈ WA := by decide +kernel
theorem wi_361 : Cond.fieldLink RX9 10 "BorrowedLuck" "tape" "LBorrowedLuck$Tape;" ∈ WA := zin 361 (by decide +kernel) (by decide +kernel)
theorem fp_X9_10_8 : zFf RX9 10 8 0 (.object "BorrowedLuck$Tape") := ⟨RX9, TX9, 13, "BorrowedLuck", tyX9, rfl, by decide, uw_X9, Or.inl rfl, Or.inl wi_361, tyX9_ok, nmX9, rfl, rfl, by decide +kernel⟩
theorem dX9_init_15 : decode cX9_init 15 = .ok (.aload_n 0, 1) := by decide +kernel
theorem dX9_init_16 : decode cX9_init 16 = .ok (.new 16, 3) := by decide +kernel
theorem wi_168 : Cond.classLink RX9 16 RX0 ∈ WA := zin 168 (by decide +kernel) (by decide +kernel)
theorem nw_X9_16 : zNw RX9 16 0 12 [none, none, none, none, none, none, none, none, none, some none, some none, some none] := ⟨RX0, TX0, tyX0, rfl, uw_X0, tyX0_ok, wi_168, wi_169, wi_102, rfl, by decide +kernel⟩
theorem dX9_init_19 : decode cX9_init 19 = .ok (.dup, 1) := by decide +kernel
theorem dX9_init_20 : decode cX9_init 20 = .ok (.invokespecial 18, 3) := by decide +kernel
theorem mi_X9_18 : zMn RX9 18 mX0_init 0 := ⟨⟨"BorrowedLuck", by decide +kernel⟩, wi_102, wi_172, by decide, by decide +kernel, rfl, wi_171⟩
theorem dX9_init_23 : decode cX9_init 23 = .ok (.putfield 19, 3) := by decide +kernel
theorem wi_362 : Cond.fieldLink RX9 19 "BorrowedLuck" "now" "LBorrowedLuck$Coast;" ∈ WA := zin 362 (by decide +kernel) (by decide +kernel)
theorem fp_X9_19_8 : zFf RX9 19 8 1 (.object "BorrowedLuck$Coast") := ⟨RX9, TX9, 13, "BorrowedLuck", tyX9, rfl, by decide, uw_X9, Or.inl rfl, Or.inl wi_362, tyX9_ok, nmX9, rfl, rfl, by decide +kernel⟩
theorem dX9_init_26 : decode cX9_init 26 = .ok (.aload_n 0, 1) := by decide +kernel
theorem dX9_init_27 : decode cX9_init 27 = .ok (.new 16, 3) := by decide +kernel
theorem dX9_init_30 : decode cX9_init 30 = .ok (.dup, 1) := by decide +kernel
theorem dX9_init_31 : decode cX9_init 31 = .ok (.invokespecial 18, 3) := by decide +kernel
theorem dX9_init_34 : decode cX9_init 34 = .ok (.putfield 23, 3) := by decide +kernel
theorem wi_363 : Cond.fieldLink RX9 23 "BorrowedLuck" "draft" "LBorrowedLuck$Coast;" ∈ WA := zin 363 (by decide +kernel) (by decide +kernel)
theorem fp_X9_23_8 : zFf RX9 23 8 2 (.object "BorrowedLuck$Coast") := ⟨RX9, TX9, 13, "BorrowedLuck", tyX9, rfl, by decide, uw_X9, Or.inl rfl, Or.inl wi_363, tyX9_ok, nmX9, rfl, rfl, by decide +kernel⟩
theorem dX9_init_37 : decode cX9_init 37 = .ok (.aload_n 0, 1) := by decide +kernel
theorem dX9_init_38 : decode cX9_init 38 = .ok (.new 16, 3) := by decide +kernel
theorem dX9_init_41 : decode cX9_init 41 = .ok (.dup, 1) := by decide +kernel
theorem dX9_init_42 : decode cX9_init 42 = .ok (.invokespecial 18, 3) := by decide +kernel
theorem dX9_init_45 : decode cX9_init 45 = .ok (.putfield 26, 3) := by decide +kernel
theorem wi_364 : Cond.fieldLink RX9 26 "BorrowedLuck" "keptCoast" "LBorrowedLuck$Coast;" ∈ WA := zin 364 (by decide +kernel) (by decide +kernel)
theorem fp_X9_26_8 : zFf RX9 26 8 3 (.object "BorrowedLuck$Coast") := ⟨RX9, TX9, 13, "BorrowedLuck", tyX9, rfl, by decide, uw_X9, Or.inl rfl, Or.inl wi_364, tyX9_ok, nmX9, rfl, rfl, by decide +kernel⟩
theorem dX9_init_48 : decode cX9_init 48 = .ok (.aload_n 0, 1) := by decide +kernel
theorem dX9_init_49 : decode cX9_init 49 = .ok (.new 29, 3) := by decide +kernel
theorem wi_229 : Cond.classLink RX9 29 RX6 ∈ WA := zin 229 (by decide +kernel) (by decide +kernel)
theorem wi_230 : Cond.instantiable RX6 1 ∈ WA := zin 230 (by decide +kernel) (by decide +kernel)
theorem wi_103 : Cond.initialized RX6 ∈ WA := zin 103 (by decide +kernel) (by decide +kernel)
theorem nw_X9_29 : zNw RX9 29 5 1 [some none] := ⟨RX6, TX6, tyX6, rfl, uw_X6, tyX6_ok, wi_229, wi_230, wi_103, rfl, by decide +kernel⟩
theorem dX9_init_52 : decode cX9_init 52 = .ok (.dup, 1) := by decide +kernel
theorem dX9_init_53 : decode cX9_init 53 = .ok (.invokespecial 31, 3) := by decide +kernel
theorem wi_233 : Cond.code yX6_init cX6_init 1 (none) ∈ WA := zin 233 (by decide +kernel) (by decide +kernel)
theorem wi_232 : Cond.instanceMethod yX6_init ∈ WA := zin 232 (by decide +kernel) (by decide +kernel)
theorem mi_X9_31 : zMn RX9 31 mX6_init 0 := ⟨⟨"BorrowedLuck", by decide +kernel⟩, wi_103, wi_233, by decide, by decide +kernel, rfl, wi_232⟩
theorem dX9_init_56 : decode cX9_init 56 = .ok (.putfield 32, 3) := by decide +kernel
theorem wi_365 : Cond.fieldLink RX9 32 "BorrowedLuck" "rites" "LBorrowedLuck$Rites;" ∈ WA := zin 365 (by decide +kernel) (by decide +kernel)
theorem fp_X9_32_8 : zFf RX9 32 8 4 (.object "BorrowedLuck$Rites") := ⟨RX9, TX9, 13, "BorrowedLuck", tyX9, rfl, by decide, uw_X9, Or.inl rfl, Or.inl wi_365, tyX9_ok, nmX9, rfl, rfl, by decide +kernel⟩
theorem dX9_init_59 : decode cX9_init 59 = .ok (.aload_n 0, 1) := by decide +kernel
theorem dX9_init_60 : decode cX9_init 60 = .ok (.new 36, 3) := by decide +kernel
theorem wi_272 : Cond.classLink RX9 36 RX2 ∈ WA := zin 272 (by decide +kernel) (by decide +kernel)
theorem nw_X9_36 : zNw RX9 36 2 8 [none, none, some none, some none, some none, some none, some none, some none] := ⟨RX2, TX2, tyX2, rfl, uw_X2, tyX2_ok, wi_272, wi_236, wi_104, rfl, by decide +kernel⟩
theorem dX9_init_63 : decode cX9_init 63 = .ok (.dup, 1) := by decide +kernel
theorem dX9_init_64 : decode cX9_init 64 = .ok (.invokespecial 38, 3) := by decide +kernel
theorem mi_X9_38 : zMn RX9 38 mX2_init 0 := ⟨⟨"BorrowedLuck", by decide +kernel⟩, wi_104, wi_239, by decide, by decide +kernel, rfl, wi_238⟩
theorem dX9_init_67 : decode cX9_init 67 = .ok (.putfield 39, 3) := by decide +kernel
theorem wi_366 : Cond.fieldLink RX9 39 "BorrowedLuck" "draftLaw" "LBorrowedLuck$Law;" ∈ WA := zin 366 (by decide +kernel) (by decide +kernel)
theorem fp_X9_39_8 : zFf RX9 39 8 5 (.object "BorrowedLuck$Law") := ⟨RX9, TX9, 13, "BorrowedLuck", tyX9, rfl, by decide, uw_X9, Or.inl rfl, Or.inl wi_366, tyX9_ok, nmX9, rfl, rfl, by decide +kernel⟩
theorem dX9_init_70 : decode cX9_init 70 = .ok (.aload_n 0, 1) := by decide +kernel
theorem dX9_init_71 : decode cX9_init 71 = .ok (.new 36, 3) := by decide +kernel
theorem dX9_init_74 : decode cX9_init 74 = .ok (.dup, 1) := by decide +kernel
theorem dX9_init_75 : decode cX9_init 75 = .ok (.invokespecial 38, 3) := by decide +kernel
theorem dX9_init_78 : decode cX9_init 78 = .ok (.putfield 43, 3) := by decide +kernel
theorem wi_367 : Cond.fieldLink RX9 43 "BorrowedLuck" "keptLaw" "LBorrowedLuck$Law;" ∈ WA := zin 367 (by decide +kernel) (by decide +kernel)
theorem fp_X9_43_8 : zFf RX9 43 8 6 (.object "BorrowedLuck$Law") := ⟨RX9, TX9, 13, "BorrowedLuck", tyX9, rfl, by decide, uw_X9, Or.inl rfl, Or.inl wi_367, tyX9_ok, nmX9, rfl, rfl, by decide +kernel⟩
theorem dX9_init_81 : decode cX9_init 81 = .ok (.aload_n 0, 1) := by decide +kernel
theorem dX9_init_82 : decode cX9_init 82 = .ok (.new 46, 3) := by decide +kernel
theorem wi_274 : Cond.classLink RX9 46 RX1 ∈ WA := zin 274 (by decide +kernel) (by decide +kernel)
theorem wi_275 : Cond.instantiable RX1 3 ∈ WA := zin 275 (by decide +kernel) (by decide +kernel)
theorem wi_106 : Cond.initialized RX1 ∈ WA := zin 106 (by decide +kernel) (by decide +kernel)
theorem nw_X9_46 : zNw RX9 46 1 3 [none, some none, some none] := ⟨RX1, TX1, tyX1, rfl, uw_X1, tyX1_ok, wi_274, wi_275, wi_106, rfl, by decide +kernel⟩
theorem dX9_init_85 : decode cX9_init 85 = .ok (.dup, 1) := by decide +kernel
theorem dX9_init_86 : decode cX9_init 86 = .ok (.aload_n 0, 1) := by decide +kernel
theorem dX9_init_87 : decode cX9_init 87 = .ok (.getfield 10, 3) := by decide +kernel
theorem fd_X9_10_8 : zFd RX9 10 8 0 := ⟨RX9, TX9, 13, "BorrowedLuck", rfl, by decide, uw_X9, Or.inl rfl, Or.inl wi_361⟩
theorem dX9_init_90 : decode cX9_init 90 = .ok (.aload_n 0, 1) := by decide +kernel
theorem dX9_init_91 : decode cX9_init 91 = .ok (.getfield 23, 3) := by decide +kernel
theorem fd_X9_23_8 : zFd RX9 23 8 2 := ⟨RX9, TX9, 13, "BorrowedLuck", rfl, by decide, uw_X9, Or.inl rfl, Or.inl wi_363⟩
theorem dX9_init_94 : decode cX9_init 94 = .ok (.invokespecial 48, 3) := by decide +kernel
theorem wi_276 : Cond.methodLink RX9 48 yX1_init ∈ WA := zin 276 (by decide +kernel) (by decide +kernel)
theorem wi_278 : Cond.code yX1_init cX1_init 3 (none) ∈ WA := zin 278 (by decide +kernel) (by decide +kernel)
theorem wi_277 : Cond.instanceMethod yX1_init ∈ WA := zin 277 (by decide +kernel) (by decide +kernel)
theorem mi_X9_48 : zMi RX9 48 mX1_init 2 := ⟨⟨wi_276, wi_106, wi_278, by decide, by decide +kernel⟩, rfl, wi_277⟩
theorem dX9_init_97 : decode cX9_init 97 = .ok (.putfield 51, 3) := by decide +kernel
theorem wi_368 : Cond.fieldLink RX9 51 "BorrowedLuck" "coastReader" "LBorrowedLuck$CoastReader;" ∈ WA := zin 368 (by decide +kernel) (by decide +kernel)
theorem fp_X9_51_8 : zFf RX9 51 8 7 (.object "BorrowedLuck$CoastReader") := ⟨RX9, TX9, 13, "BorrowedLuck", tyX9, rfl, by decide, uw_X9, Or.inl rfl, Or.inl wi_368, tyX9_ok, nmX9, rfl, rfl, by decide +kernel⟩
theorem dX9_init_100 : decode cX9_init 100 = .ok (.aload_n 0, 1) := by decide +kernel
theorem dX9_init_101 : decode cX9_init 101 = .ok (.new 55, 3) := by decide +kernel
theorem wi_297 : Cond.classLink RX9 55 RX3 ∈ WA := zin 297 (by decide +kernel) (by decide +kernel)
theorem wi_298 : Cond.instantiable RX3 3 ∈ WA := zin 298 (by decide +kernel) (by decide +kernel)
theorem wi_107 : Cond.initialized RX3 ∈ WA := zin 107 (by decide +kernel) (by decide +kernel)
theorem nw_X9_55 : zNw RX9 55 3 3 [none, some none, some none] := ⟨RX3, TX3, tyX3, rfl, uw_X3, tyX3_ok, wi_297, wi_298, wi_107, rfl, by decide +kernel⟩
theorem dX9_init_104 : decode cX9_init 104 = .ok (.dup, 1) := by decide +kernel
theorem dX9_init_105 : decode cX9_init 105 = .ok (.aload_n 0, 1) := by decide +kernel
theorem dX9_init_106 : decode cX9_init 106 = .ok (.getfield 10, 3) := by decide +kernel
theorem dX9_init_109 : decode cX9_init 109 = .ok (.aload_n 0, 1) := by decide +kernel
theorem dX9_init_110 : decode cX9_init 110 = .ok (.getfield 39, 3) := by decide +kernel
theorem fd_X9_39_8 : zFd RX9 39 8 5 := ⟨RX9, TX9, 13, "BorrowedLuck", rfl, by decide, uw_X9, Or.inl rfl, Or.inl wi_366⟩
theorem dX9_init_113 : decode cX9_init 113 = .ok (.invokespecial 57, 3) := by decide +kernel
theorem wi_299 : Cond.methodLink RX9 57 yX3_init ∈ WA := zin 299 (by decide +kernel) (by decide +kernel)
theorem wi_301 : Cond.code yX3_init cX3_init 3 (none) ∈ WA := zin 301 (by decide +kernel) (by decide +kernel)
theorem wi_300 : Cond.instanceMethod yX3_init ∈ WA := zin 300 (by decide +kernel) (by decide +kernel)
theorem mi_X9_57 : zMi RX9 57 mX3_init 2 := ⟨⟨wi_299, wi_107, wi_301, by decide, by decide +kernel⟩, rfl, wi_300⟩
theorem dX9_init_116 : decode cX9_init 116 = .ok (.putfield 60, 3) := by decide +kernel
theorem wi_369 : Cond.fieldLink RX9 60 "BorrowedLuck" "lawReader" "LBorrowedLuck$LawReader;" ∈ WA := zin 369 (by decide +kernel) (by decide +kernel)
theorem fp_X9_60_8 : zFf RX9 60 8 8 (.object "BorrowedLuck$LawReader") := ⟨RX9, TX9, 13, "BorrowedLuck", tyX9, rfl, by decide, uw_X9, Or.inl rfl, Or.inl wi_369, tyX9_ok, nmX9, rfl, rfl, by decide +kernel⟩
theorem dX9_init_119 : decode cX9_init 119 = .ok (.aload_n 0, 1) := by decide +kernel
theorem dX9_init_120 : decode cX9_init 120 = .ok (.new 64, 3) := by decide +kernel
theorem wi_309 : Cond.classLink RX9 64 RX7 ∈ WA := zin 309 (by decide +kernel) (by decide +kernel)
theorem wi_310 : Cond.instantiable RX7 8 ∈ WA := zin 310 (by decide +kernel) (by decide +kernel)
theorem wi_108 : Cond.initialized RX7 ∈ WA := zin 108 (by decide +kernel) (by decide +kernel)
theorem nw_X9_64 : zNw RX9 64 6 8 [some none, some none, none, none, some none, some none, some none, some none] := ⟨RX7, TX7, tyX7, rfl, uw_X7, tyX7_ok, wi_309, wi_310, wi_108, rfl, by decide +kernel⟩
theorem dX9_init_123 : decode cX9_init 123 = .ok (.dup, 1) := by decide +kernel
theorem dX9_init_124 : decode cX9_init 124 = .ok (.aload_n 0, 1) := by decide +kernel
theorem dX9_init_125 : decode cX9_init 125 = .ok (.getfield 32, 3) := by decide +kernel
theorem fd_X9_32_8 : zFd RX9 32 8 4 := ⟨RX9, TX9, 13, "BorrowedLuck", rfl, by decide, uw_X9, Or.inl rfl, Or.inl wi_365⟩
theorem dX9_init_128 : decode cX9_init 128 = .ok (.aload_n 0, 1) := by decide +kernel
theorem dX9_init_129 : decode cX9_init 129 = .ok (.getfield 23, 3) := by decide +kernel
theorem dX9_init_132 : decode cX9_init 132 = .ok (.invokespecial 66, 3) := by decide +kernel
theorem wi_311 : Cond.methodLink RX9 66 yX7_init ∈ WA := zin 311 (by decide +kernel) (by decide +kernel)
theorem wi_313 : Cond.code yX7_init cX7_init 3 (none) ∈ WA := zin 313 (by decide +kernel) (by decide +kernel)
theorem wi_312 : Cond.instanceMethod yX7_init ∈ WA := zin 312 (by decide +kernel) (by decide +kernel)
theorem mi_X9_66 : zMi RX9 66 mX7_init 2 := ⟨⟨wi_311, wi_108, wi_313, by decide, by decide +kernel⟩, rfl, wi_312⟩
theorem dX9_init_135 : decode cX9_init 135 = .ok (.putfield 69, 3) := by decide +kernel
theorem wi_370 : Cond.fieldLink RX9 69 "BorrowedLuck" "search" "LBorrowedLuck$Search;" ∈ WA := zin 370 (by decide +kernel) (by decide +kernel)
theorem fp_X9_69_8 : zFf RX9 69 8 9 (.object "BorrowedLuck$Search") := ⟨RX9, TX9, 13, "BorrowedLuck", tyX9, rfl, by decide, uw_X9, Or.inl rfl, Or.inl wi_370, tyX9_ok, nmX9, rfl, rfl, by decide +kernel⟩
theorem dX9_init_138 : decode cX9_init 138 = .ok (.aload_n 0, 1) := by decide +kernel
theorem dX9_init_139 : decode cX9_init 139 = .ok (.new 73, 3) := by decide +kernel
theorem wi_341 : Cond.classLink RX9 73 RX5 ∈ WA := zin 341 (by decide +kernel) (by decide +kernel)
theorem wi_342 : Cond.instantiable RX5 3 ∈ WA := zin 342 (by decide +kernel) (by decide +kernel)
theorem wi_109 : Cond.initialized RX5 ∈ WA := zin 109 (by decide +kernel) (by decide +kernel)
theorem nw_X9_73 : zNw RX9 73 4 3 [some none, none, none] := ⟨RX5, TX5, tyX5, rfl, uw_X5, tyX5_ok, wi_341, wi_342, wi_109, rfl, by decide +kernel⟩
theorem dX9_init_142 : decode cX9_init 142 = .ok (.dup, 1) := by decide +kernel
theorem dX9_init_143 : decode cX9_init 143 = .ok (.invokespecial 75, 3) := by decide +kernel
theorem wi_343 : Cond.methodLink RX9 75 yX5_init ∈ WA := zin 343 (by decide +kernel) (by decide +kernel)
theorem wi_345 : Cond.code yX5_init cX5_init 2 (none) ∈ WA := zin 345 (by decide +kernel) (by decide +kernel)
theorem wi_344 : Cond.instanceMethod yX5_init ∈ WA := zin 344 (by decide +kernel) (by decide +kernel)
theorem mi_X9_75 : zMi RX9 75 mX5_init 0 := ⟨⟨wi_343, wi_109, wi_345, by decide, by decide +kernel⟩, rfl, wi_344⟩
theorem dX9_init_146 : decode cX9_init 146 = .ok (.putfield 76, 3) := by decide +kernel
theorem wi_371 : Cond.fieldLink RX9 76 "BorrowedLuck" "memory" "LBorrowedLuck$Memory;" ∈ WA := zin 371 (by decide +kernel) (by decide +kernel)
theorem fp_X9_76_8 : zFf RX9 76 8 10 (.object "BorrowedLuck$Memory") := ⟨RX9, TX9, 13, "BorrowedLuck", tyX9, rfl, by decide, uw_X9, Or.inl rfl, Or.inl wi_371, tyX9_ok, nmX9, rfl, rfl, by decide +kernel⟩
theorem dX9_init_149 : decode cX9_init 149 = .ok (.aload_n 0, 1) := by decide +kernel
theorem dX9_init_150 : decode cX9_init 150 = .ok (.iconst (-1), 1) := by decide +kernel
theorem dX9_init_151 : decode cX9_init 151 = .ok (.putfield 80, 3) := by decide +kernel
theorem wi_373 : Cond.fieldLink RX9 80 "BorrowedLuck" "wrongByte" "I" ∈ WA := zin 373 (by decide +kernel) (by decide +kernel)
theorem fp_X9_80_8 : zFp RX9 80 8 12 .int := ⟨RX9, TX9, 13, "BorrowedLuck", tyX9, rfl, by decide, uw_X9, Or.inl rfl, Or.inl wi_373, tyX9_ok, nmX9, rfl, by decide +kernel⟩
theorem dX9_init_154 : decode cX9_init 154 = .ok (.return_, 1) := by decide +kernel
abbrev mX10_init : Ym := (yX10_init, cX10_init, 1, none)
theorem dX10_init_0 : decode cX10_init 0 = .ok (.aload_n 0, 1) := by decide +kernel
theorem dX10_init_1 : decode cX10_init 1 = .ok (.invokespecial 7, 3) := by decide +kernel
theorem wi_1258 : Cond.methodLink RX10 7 Lib.objectInit ∈ WA := zin 1258 (by decide +kernel) (by decide +kernel)
theorem ob_X10_7 : zOb RX10 7 := ⟨wi_1258, wi_132, wi_133⟩
theorem dX10_init_4 : decode cX10_init 4 = .ok (.aload_n 0, 1) := by decide +kernel
theorem dX10_init_5 : decode cX10_init 5 = .ok (.sipush 2075, 3) := by decide +kernel
theorem dX10_init_8 : decode cX10_init 8 = .ok (.newarray .int, 2) := by decide +kernel
theorem dX10_init_10 : decode cX10_init 10 = .ok (.putfield 13, 3) := by decide +kernel
theorem fp_X10_13_9 : zFf RX10 13 9 1 (.array .int) := ⟨RX10, TX10, 23, "BorrowedLuckModel", tyX10, rfl, by decide, uw_X10, Or.inl rfl, Or.inl wi_1260, tyX10_ok, nmX10, rfl, rfl, by decide +kernel⟩
theorem dX10_init_13 : decode cX10_init 13 = .ok (.aload_n 0, 1) := by decide +kernel
theorem dX10_init_14 : decode cX10_init 14 = .ok (.sipush 1226, 3) := by decide +kernel
theorem dX10_init_17 : decode cX10_init 17 = .ok (.newarray .int, 2) := by decide +kernel
theorem dX10_init_19 : decode cX10_init 19 = .ok (.putfield 17, 3) := by decide +kernel
theorem fp_X10_17_9 : zFf RX10 17 9 2 (.array .int) := ⟨RX10, TX10, 23, "BorrowedLuckModel", tyX10, rfl, by decide, uw_X10, Or.inl rfl, Or.inl wi_1261, tyX10_ok, nmX10, rfl, rfl, by decide +kernel⟩
theorem dX10_init_22 : decode cX10_init 22 = .ok (.aload_n 0, 1) := by decide +kernel
theorem dX10_init_23 : decode cX10_init 23 = .ok (.sipush 1226, 3) := by decide +kernel
theorem dX10_init_26 : decode cX10_init 26 = .ok (.newarray .int, 2) := by decide +kernel
theorem dX10_init_28 : decode cX10_init 28 = .ok (.putfield 20, 3) := by decide +kernel
theorem wi_1262 : Cond.fieldLink RX10 20 "BorrowedLuckModel" "before" "[I" ∈ WA := zin 1262 (by decide +kernel) (by decide +kernel)
theorem fp_X10_20_9 : zFf RX10 20 9 3 (.array .int) := ⟨RX10, TX10, 23, "BorrowedLuckModel", tyX10, rfl, by decide, uw_X10, Or.inl rfl, Or.inl wi_1262, tyX10_ok, nmX10, rfl, rfl, by decide +kernel⟩
theorem dX10_init_31 : decode cX10_init 31 = .ok (.aload_n 0, 1) := by decide +kernel
theorem dX10_init_32 : decode cX10_init 32 = .ok (.sipush 377, 3) := by decide +kernel
theorem dX10_init_35 : decode cX10_init 35 = .ok (.newarray .int, 2) := by decide +kernel
theorem dX10_init_37 : decode cX10_init 37 = .ok (.putfield 23, 3) := by decide +kernel
theorem fp_X10_23_9 : zFf RX10 23 9 4 (.array .int) := ⟨RX10, TX10, 23, "BorrowedLuckModel", tyX10, rfl, by decide, uw_X10, Or.inl rfl, Or.inl wi_1263, tyX10_ok, nmX10, rfl, rfl, by decide +kernel⟩
theorem dX10_init_40 : decode cX10_init 40 = .ok (.aload_n 0, 1) := by decide +kernel
theorem dX10_init_41 : decode cX10_init 41 = .ok (.sipush 4524, 3) := by decide +kernel
theorem dX10_init_44 : decode cX10_init 44 = .ok (.newarray .int, 2) := by decide +kernel
theorem dX10_init_46 : decode cX10_init 46 = .ok (.putfield 26, 3) := by decide +kernel
theorem wi_1264 : Cond.fieldLink RX10 26 "BorrowedLuckModel" "acts" "[I" ∈ WA := zin 1264 (by decide +kernel) (by decide +kernel)
theorem fp_X10_26_9 : zFf RX10 26 9 5 (.array .int) := ⟨RX10, TX10, 23, "BorrowedLuckModel", tyX10, rfl, by decide, uw_X10, Or.inl rfl, Or.inl wi_1264, tyX10_ok, nmX10, rfl, rfl, by decide +kernel⟩
theorem dX10_init_49 : decode cX10_init 49 = .ok (.aload_n 0, 1) := by decide +kernel
theorem dX10_init_50 : decode cX10_init 50 = .ok (.sipush 400, 3) := by decide +kernel
theorem dX10_init_53 : decode cX10_init 53 = .ok (.newarray .byte, 2) := by decide +kernel
theorem wi_742 : Cond.arrayClass .byte ∈ WA := zin 742 (by decide +kernel) (by decide +kernel)
theorem dX10_init_55 : decode cX10_init 55 = .ok (.putfield 29, 3) := by decide +kernel
theorem wi_1267 : Cond.fieldLink RX10 29 "BorrowedLuckModel" "tape" "[B" ∈ WA := zin 1267 (by decide +kernel) (by decide +kernel)
theorem fp_X10_29_9 : zFf RX10 29 9 8 (.array .byte) := ⟨RX10, TX10, 23, "BorrowedLuckModel", tyX10, rfl, by decide, uw_X10, Or.inl rfl, Or.inl wi_1267, tyX10_ok, nmX10, rfl, rfl, by decide +kernel⟩
theorem dX10_init_58 : decode cX10_init 58 = .ok (.aload_n 0, 1) := by decide +kernel
theorem dX10_init_59 : decode cX10_init 59 = .ok (.iconst (-1), 1) := by decide +kernel
theorem dX10_init_60 : decode cX10_init 60 = .ok (.putfield 33, 3) := by decide +kernel
theorem fp_X10_33_9 : zFp RX10 33 9 14 .int := ⟨RX10, TX10, 23, "BorrowedLuckModel", tyX10, rfl, by decide, uw_X10, Or.inl rfl, Or.inl wi_1273, tyX10_ok, nmX10, rfl, by decide +kernel⟩
theorem dX10_init_63 : decode cX10_init 63 = .ok (.aload_n 0, 1) := by decide +kernel
theorem dX10_init_64 : decode cX10_init 64 = .ok (.iconst 5, 1) := by decide +kernel
theorem dX10_init_65 : decode cX10_init 65 = .ok (.newarray .int, 2) := by decide +kernel
theorem dX10_init_67 : decode cX10_init 67 = .ok (.putfield 36, 3) := by decide +kernel
theorem wi_1274 : Cond.fieldLink RX10 36 "BorrowedLuckModel" "five" "[I" ∈ WA := zin 1274 (by decide +kernel) (by decide +kernel)
theorem fp_X10_36_9 : zFf RX10 36 9 15 (.array .int) := ⟨RX10, TX10, 23, "BorrowedLuckModel", tyX10, rfl, by decide, uw_X10, Or.inl rfl, Or.inl wi_1274, tyX10_ok, nmX10, rfl, rfl, by decide +kernel⟩
theorem dX10_init_70 : decode cX10_init 70 = .ok (.aload_n 0, 1) := by decide +kernel
theorem dX10_init_71 : decode cX10_init 71 = .ok (.sipush 400, 3) := by decide +kernel
theorem dX10_init_74 : decode cX10_init 74 = .ok (.newarray .int, 2) := by decide +kernel
theorem dX10_init_76 : decode cX10_init 76 = .ok (.putfield 39, 3) := by decide +kernel
theorem wi_1276 : Cond.fieldLink RX10 39 "BorrowedLuckModel" "value" "[I" ∈ WA := zin 1276 (by decide +kernel) (by decide +kernel)
theorem fp_X10_39_9 : zFf RX10 39 9 17 (.array .int) := ⟨RX10, TX10, 23, "BorrowedLuckModel", tyX10, rfl, by decide, uw_X10, Or.inl rfl, Or.inl wi_1276, tyX10_ok, nmX10, rfl, rfl, by decide +kernel⟩
theorem dX10_init_79 : decode cX10_init 79 = .ok (.aload_n 0, 1) := by decide +kernel
theorem dX10_init_80 : decode cX10_init 80 = .ok (.iconst 4, 1) := by decide +kernel
theorem dX10_init_81 : decode cX10_init 81 = .ok (.newarray .int, 2) := by decide +kernel
theorem dX10_init_83 : decode cX10_init 83 = .ok (.putfield 42, 3) := by decide +kernel
theorem wi_1277 : Cond.fieldLink RX10 42 "BorrowedLuckModel" "more" "[I" ∈ WA := zin 1277 (by decide +kernel) (by decide +kernel)
theorem fp_X10_42_9 : zFf RX10 42 9 18 (.array .int) := ⟨RX10, TX10, 23, "BorrowedLuckModel", tyX10, rfl, by decide, uw_X10, Or.inl rfl, Or.inl wi_1277, tyX10_ok, nmX10, rfl, rfl, by decide +kernel⟩
theorem dX10_init_86 : decode cX10_init 86 = .ok (.aload_n 0, 1) := by decide +kernel
theorem dX10_init_87 : decode cX10_init 87 = .ok (.iconst 5, 1) := by decide +kernel
theorem dX10_init_88 : decode cX10_init 88 = .ok (.newarray .int, 2) := by decide +kernel
theorem dX10_init_90 : decode cX10_init 90 = .ok (.putfield 45, 3) := by decide +kernel
theorem wi_1278 : Cond.fieldLink RX10 45 "BorrowedLuckModel" "row" "[I" ∈ WA := zin 1278 (by decide +kernel) (by decide +kernel)
theorem fp_X10_45_9 : zFf RX10 45 9 19 (.array .int) := ⟨RX10, TX10, 23, "BorrowedLuckModel", tyX10, rfl, by decide, uw_X10, Or.inl rfl, Or.inl wi_1278, tyX10_ok, nmX10, rfl, rfl, by decide +kernel⟩
theorem dX10_init_93 : decode cX10_init 93 = .ok (.aload_n 0, 1) := by decide +kernel
theorem dX10_init_94 : decode cX10_init 94 = .ok (.iconst 5, 1) := by decide +kernel
theorem dX10_init_95 : decode cX10_init 95 = .ok (.newarray .int, 2) := by decide +kernel
theorem dX10_init_97 : decode cX10_init 97 = .ok (.putfield 48, 3) := by decide +kernel
theorem wi_1279 : Cond.fieldLink RX10 48 "BorrowedLuckModel" "best" "[I" ∈ WA := zin 1279 (by decide +kernel) (by decide +kernel)
theorem fp_X10_48_9 : zFf RX10 48 9 20 (.array .int) := ⟨RX10, TX10, 23, "BorrowedLuckModel", tyX10, rfl, by decide, uw_X10, Or.inl rfl, Or.inl wi_1279, tyX10_ok, nmX10, rfl, rfl, by decide +kernel⟩
theorem dX10_init_100 : decode cX10_init 100 = .ok (.aload_n 0, 1) := by decide +kernel
theorem dX10_init_101 : decode cX10_init 101 = .ok (.sipush 1536, 3) := by decide +kernel
theorem dX10_init_104 : decode cX10_init 104 = .ok (.newarray .int, 2) := by decide +kernel
theorem dX10_init_106 : decode cX10_init 106 = .ok (.putfield 51, 3) := by decide +kernel
theorem wi_1281 : Cond.fieldLink RX10 51 "BorrowedLuckModel" "together" "[I" ∈ WA := zin 1281 (by decide +kernel) (by decide +kernel)
theorem fp_X10_51_9 : zFf RX10 51 9 22 (.array .int) := ⟨RX10, TX10, 23, "BorrowedLuckModel", tyX10, rfl, by decide, uw_X10, Or.inl rfl, Or.inl wi_1281, tyX10_ok, nmX10, rfl, rfl, by decide +kernel⟩
theorem dX10_init_109 : decode cX10_init 109 = .ok (.aload_n 0, 1) := by decide +kernel
theorem dX10_init_110 : decode cX10_init 110 = .ok (.getfield 13, 3) := by decide +kernel
theorem dX10_init_113 : decode cX10_init 113 = .ok (.iconst 5, 1) := by decide +kernel
theorem dX10_init_114 : decode cX10_init 114 = .ok (.iconst 5, 1) := by decide +kernel
theorem dX10_init_115 : decode cX10_init 115 = .ok (.iastore, 1) := by decide +kernel
theorem dX10_init_116 : decode cX10_init 116 = .ok (.aload_n 0, 1) := by decide +kernel
theorem dX10_init_117 : decode cX10_init 117 = .ok (.getfield 13, 3) := by decide +kernel
theorem dX10_init_120 : decode cX10_init 120 = .ok (.bipush 6, 2) := by decide +kernel
theorem dX10_init_122 : decode cX10_init 122 = .ok (.bipush 20, 2) := by decide +kernel
theorem dX10_init_124 : decode cX10_init 124 = .ok (.iastore, 1) := by decide +kernel
theorem dX10_init_125 : decode cX10_init 125 = .ok (.aload_n 0, 1) := by decide +kernel
theorem dX10_init_126 : decode cX10_init 126 = .ok (.getfield 13, 3) := by decide +kernel
theorem dX10_init_129 : decode cX10_init 129 = .ok (.bipush 8, 2) := by decide +kernel
theorem dX10_init_131 : decode cX10_init 131 = .ok (.iconst 1, 1) := by decide +kernel
theorem dX10_init_132 : decode cX10_init 132 = .ok (.iastore, 1) := by decide +kernel
theorem dX10_init_133 : decode cX10_init 133 = .ok (.return_, 1) := by decide +kernel
theorem jC_ne (I : Hi) {c k : Nat} (h : k ≠ c) : jC I c k = I k := by simp [jC, zup, zset, h]
theorem zup_ne (I : Hi) {a j k : Nat} (v : Int32) (h : k ≠ a) : zup I a j v k = I k := by simp [zup, zset, h]
section Init2
variable (G : Gx) (d : Nat) (I : Hi)
theorem cn_Line_37 : Cn G (wB 7 36 ++ [.inl (1, [none, some none, some none])]) mX4_init (d + 1) 0 [.ref 37, .ref 1, .int (nI 14)] I (wB 7 36 ++ [.inl (1, [none, some (some 1), some none])]) (zup I 37 0 (nI 14)) := by
  refine Cn.mkY [some (.ref 37), some (.ref 1), some (.int (nI 14))] rfl (fun ad => ?_)
  refine Rn.aload_n dX4_init_0 rfl rfl ?_
  refine Rn.objI dX4_init_1 ob_X4_1 (Nat.le_of_ble_eq_true rfl) ?_
  refine Rn.aload_n dX4_init_4 rfl rfl ?_
  refine Rn.aload_n dX4_init_5 rfl rfl ?_
  refine Rn.putR dX4_init_6 fp_X4_7_1 rfl (by first | rfl | exact gC0 (by assumption) | exact gL0 (by assumption)) rfl (fun _ => ⟨rfl, rfl⟩) ?_
  refine Rn.aload_n dX4_init_9 rfl rfl ?_
  refine Rn.iload_n dX4_init_10 rfl rfl ?_
  refine Rn.putFI dX4_init_11 fp_X4_13_1 rfl (by decide +kernel) (by first | rfl | exact gC0 (by assumption) | exact gL0 (by assumption)) rfl ⟨rfl, rfl⟩ ?_
  refine Rn.wld (wB 7 36 ++ [.inl (1, [none, some (some 1), some none])]) rfl ?_
  exact Rn.nretY dX4_init_14 rfl rfl rfl
theorem cn_Line_38 : Cn G (wB 8 37 ++ [.inl (3, [none, some none, some none])]) mX4_init (d + 1) 0 [.ref 38, .ref 1, .int (nI 12)] I (wB 8 37 ++ [.inl (3, [none, some (some 1), some none])]) (zup I 38 0 (nI 12)) := by
  refine Cn.mkY [some (.ref 38), some (.ref 1), some (.int (nI 12))] rfl (fun ad => ?_)
  refine Rn.aload_n dX4_init_0 rfl rfl ?_
  refine Rn.objI dX4_init_1 ob_X4_1 (Nat.le_of_ble_eq_true rfl) ?_
  refine Rn.aload_n dX4_init_4 rfl rfl ?_
  refine Rn.aload_n dX4_init_5 rfl rfl ?_
  refine Rn.putR dX4_init_6 fp_X4_7_3 rfl (by first | rfl | exact gC0 (by assumption) | exact gL0 (by assumption)) rfl (fun _ => ⟨rfl, rfl⟩) ?_
  refine Rn.aload_n dX4_init_9 rfl rfl ?_
  refine Rn.iload_n dX4_init_10 rfl rfl ?_
  refine Rn.putFI dX4_init_11 fp_X4_13_3 rfl (by decide +kernel) (by first | rfl | exact gC0 (by assumption) | exact gL0 (by assumption)) rfl ⟨rfl, rfl⟩ ?_
  refine Rn.wld (wB 8 37 ++ [.inl (3, [none, some (some 1), some none])]) rfl ?_
  exact Rn.nretY dX4_init_14 rfl rfl rfl
theorem cn_CoastReader : Cn G (wB 7 36 ++ [.inl (1, [none, some none, some none])]) mX1_init (d + 2) 0 [.ref 37, .ref 1, .ref 7] I (wB 7 37) (zup I 37 0 (nI 14)) := by
  refine Cn.mkY [some (.ref 37), some (.ref 1), some (.ref 7)] rfl (fun ad => ?_)
  refine Rn.aload_n dX1_init_0 rfl rfl ?_
  refine Rn.aload_n dX1_init_1 rfl rfl ?_
  refine Rn.bipush (v := (nI 14)) dX1_init_2 rfl ?_
  refine Rn.ctorY (mc := 0) (n := 38) (n2 := 38) (As := [_, _]) dX1_init_4 (Or.inl mi_X1_3) rfl rfl rfl (Nat.le_of_ble_eq_true rfl) (cn_Line_37 _ _ _) rfl rfl (by decide +kernel) (by decide) (by decide) (fun ad => ?_)
  refine Rn.aload_n dX1_init_7 rfl rfl ?_
  refine Rn.aload_n dX1_init_8 rfl rfl ?_
  refine Rn.putR dX1_init_9 fp_X1_9_1 rfl (by first | rfl | exact gC0 (by assumption) | exact gL0 (by assumption)) rfl (fun _ => ⟨rfl, rfl⟩) ?_
  refine Rn.wld (wB 7 37) rfl ?_
  exact Rn.nretY dX1_init_12 rfl rfl rfl
theorem cn_LawReader : Cn G (wB 8 37 ++ [.inl (3, [none, some none, some none])]) mX3_init (d + 2) 0 [.ref 38, .ref 1, .ref 23] I (wB 8 38) (zup I 38 0 (nI 12)) := by
  refine Cn.mkY [some (.ref 38), some (.ref 1), some (.ref 23)] rfl (fun ad => ?_)
  refine Rn.aload_n dX3_init_0 rfl rfl ?_
  refine Rn.aload_n dX3_init_1 rfl rfl ?_
  refine Rn.bipush (v := (nI 12)) dX3_init_2 rfl ?_
  refine Rn.ctorY (mc := 0) (n := 39) (n2 := 39) (As := [_, _]) dX3_init_4 (Or.inl mi_X3_3) rfl rfl rfl (Nat.le_of_ble_eq_true rfl) (cn_Line_38 _ _ _) rfl rfl (by decide +kernel) (by decide) (by decide) (fun ad => ?_)
  refine Rn.aload_n dX3_init_7 rfl rfl ?_
  refine Rn.aload_n dX3_init_8 rfl rfl ?_
  refine Rn.putR dX3_init_9 fp_X3_9_3 rfl (by first | rfl | exact gC0 (by assumption) | exact gL0 (by assumption)) rfl (fun _ => ⟨rfl, rfl⟩) ?_
  refine Rn.wld (wB 8 38) rfl ?_
  exact Rn.nretY dX3_init_12 rfl rfl rfl
theorem cn_Search (h : ∀ k, 40 ≤ k → I k = fun _ => 0) : Cn G (wB 9 38 ++ [.inl (6, [some none, some none, none, none, some none, some none, some none, some none])]) mX7_init (d + 1) 20 [.ref 39, .ref 15, .ref 7] I (wB 9 43) I := by
  refine Cn.mkY [some (.ref 39), some (.ref 15), some (.ref 7)] rfl (fun ad => ?_)
  refine Rn.aload_n dX7_init_0 rfl rfl ?_
  refine Rn.objI dX7_init_1 ob_X7_3 (Nat.le_of_ble_eq_true rfl) ?_
  refine Rn.aload_n dX7_init_4 rfl rfl ?_
  refine Rn.bipush (v := (nI 8)) dX7_init_5 rfl ?_
  refine Rn.newaY (n := 40) (k := 2) (len := 8) dX7_init_7 rfl (by decide) wi_167 rfl (by decide) rfl (zOKb (by decide +kernel)) (h 40 (by decide)) (by decide +kernel) (by decide) (by decide) (by decide) (fun ad => ?_)
  refine Rn.putR dX7_init_9 fp_X7_9_6 rfl (by first | rfl | exact gC0 (by assumption) | exact gL0 (by assumption)) rfl (fun _ => ⟨rfl, rfl⟩) ?_
  refine Rn.aload_n dX7_init_12 rfl rfl ?_
  refine Rn.bipush (v := (nI 8)) dX7_init_13 rfl ?_
  refine Rn.newaY (n := 41) (k := 2) (len := 8) dX7_init_15 rfl (by decide) wi_167 rfl (by decide) rfl (zOKb (by decide +kernel)) (h 41 (by decide)) (by decide +kernel) (by decide) (by decide) (by decide) (fun ad => ?_)
  refine Rn.putR dX7_init_17 fp_X7_15_6 rfl (by first | rfl | exact gC0 (by assumption) | exact gL0 (by assumption)) rfl (fun _ => ⟨rfl, rfl⟩) ?_
  refine Rn.aload_n dX7_init_20 rfl rfl ?_
  refine Rn.bipush (v := (nI 8)) dX7_init_21 rfl ?_
  refine Rn.newaY (n := 42) (k := 2) (len := 8) dX7_init_23 rfl (by decide) wi_167 rfl (by decide) rfl (zOKb (by decide +kernel)) (h 42 (by decide)) (by decide +kernel) (by decide) (by decide) (by decide) (fun ad => ?_)
  refine Rn.putR dX7_init_25 fp_X7_18_6 rfl (by first | rfl | exact gC0 (by assumption) | exact gL0 (by assumption)) rfl (fun _ => ⟨rfl, rfl⟩) ?_
  refine Rn.aload_n dX7_init_28 rfl rfl ?_
  refine Rn.bipush (v := (nI 64)) dX7_init_29 rfl ?_
  refine Rn.newaY (n := 43) (k := 11) (len := 64) dX7_init_31 rfl (by decide) wi_167 rfl (by decide) rfl (zOKb (by decide +kernel)) (h 43 (by decide)) (by decide +kernel) (by decide) (by decide) (by decide) (fun ad => ?_)
  refine Rn.putR dX7_init_33 fp_X7_21_6 rfl (by first | rfl | exact gC0 (by assumption) | exact gL0 (by assumption)) rfl (fun _ => ⟨rfl, rfl⟩) ?_
  refine Rn.aload_n dX7_init_36 rfl rfl ?_
  refine Rn.aload_n dX7_init_37 rfl rfl ?_
  refine Rn.putR dX7_init_38 fp_X7_24_6 rfl (by first | rfl | exact gC0 (by assumption) | exact gL0 (by assumption)) rfl (fun _ => ⟨rfl, rfl⟩) ?_
  refine Rn.aload_n dX7_init_41 rfl rfl ?_
  refine Rn.aload_n dX7_init_42 rfl rfl ?_
  refine Rn.putR dX7_init_43 fp_X7_28_6 rfl (by first | rfl | exact gC0 (by assumption) | exact gL0 (by assumption)) rfl (fun _ => ⟨rfl, rfl⟩) ?_
  refine Rn.wld (wB 9 43) rfl ?_
  exact Rn.nretY dX7_init_46 rfl rfl rfl
def jM (I : Hi) : Nat → Hi
  | 0 => I
  | j + 1 => jC (jM I j) (46 + 4 * j)
set_option maxHeartbeats 8000000 in
theorem cn_Memory (h : ∀ k, 45 ≤ k → I k = fun _ => 0) : Cn G (wB 10 43 ++ [.inl (4, [some none, none, none])]) mX5_init (d + 2) 900 [.ref 44] I (wM 12) (jM I 12) := by
  refine Cn.mkY [some (.ref 44), none] rfl (fun ad => ?_)
  refine Rn.aload_n dX5_init_0 rfl rfl ?_
  refine Rn.objI dX5_init_1 ob_X5_3 (Nat.le_of_ble_eq_true rfl) ?_
  refine Rn.aload_n dX5_init_4 rfl rfl ?_
  refine Rn.bipush (v := (nI 12)) dX5_init_5 rfl ?_
  refine Rn.newqY (n := 45) (k := 2) (len := 12) dX5_init_7 wi_347 rfl (by decide) rfl (zOKb (by decide +kernel)) (by decide +kernel) (by decide) (by decide) (by decide) (fun ad => ?_)
  refine Rn.putR dX5_init_10 fp_X5_11_4 rfl (by first | rfl | exact gC0 (by assumption) | exact gL0 (by assumption)) rfl (fun _ => ⟨rfl, rfl⟩) ?_
  refine Rn.iconst (v := (nI 0)) dX5_init_13 rfl ?_
  refine Rn.istore_n dX5_init_14 rfl (by decide) ?_
  refine Rn.wld (wM 0) (by rw [fM_0]; rfl) ?_
  refine Rn.iload_n dX5_init_15 rfl rfl ?_
  refine Rn.bipush (v := (nI 12)) dX5_init_16 rfl ?_
  refine Rn.icmp_ge (tgt := 40) dX5_init_18 (by decide) (fun h9 => absurd h9 (by decide)) (fun _ => ?_)
  refine Rn.aload_n dX5_init_21 rfl rfl ?_
  refine Rn.getR dX5_init_22 fd_X5_11_4 (by first | rfl | exact gC0 (by assumption) | exact gL0 (by assumption)) rfl ?_
  refine Rn.iload_n dX5_init_25 rfl rfl ?_
  refine Rn.newY (n := 46) (k := 2) dX5_init_26 nw_X5_9 rfl (zOKs 45 (by decide +kernel) rfl (by decide)) (h 46 (by decide)) (by decide +kernel) (by decide) (by decide) (by decide) (fun ad => ?_)
  refine Rn.dup dX5_init_29 rfl ?_
  refine Rn.ctorY (mc := 70) (n := 47) (n2 := 50) (As := []) dX5_init_30 (Or.inr mi_X5_17) rfl rfl rfl (Nat.le_of_ble_eq_true rfl) (cn_CoastM_0 _ _ _ (h 47 (by decide)) (h 48 (by decide)) (h 49 (by decide))) rfl rfl (by decide +kernel) (by decide) (by decide) (fun ad => ?_)
  refine Rn.aast (ci := 0) (j := 0) dX5_init_33 rfl rfl rfl (by decide) (by decide) ?_
  refine Rn.wld (wM 1) (by rw [fM_up 0]; rfl) ?_
  refine Rn.iincN dX5_init_34 rfl (by decide) ?_
  refine Rn.goto 15 dX5_init_37 (by decide) ?_
  refine Rn.iload_n dX5_init_15 rfl rfl ?_
  refine Rn.bipush (v := (nI 12)) dX5_init_16 rfl ?_
  refine Rn.icmp_ge (tgt := 40) dX5_init_18 (by decide) (fun h9 => absurd h9 (by decide)) (fun _ => ?_)
  refine Rn.aload_n dX5_init_21 rfl rfl ?_
  refine Rn.getR dX5_init_22 fd_X5_11_4 (by first | rfl | exact gC0 (by assumption) | exact gL0 (by assumption)) rfl ?_
  refine Rn.iload_n dX5_init_25 rfl rfl ?_
  refine Rn.newY (n := 50) (k := 2) dX5_init_26 nw_X5_9 rfl (zOKs 45 (by decide +kernel) rfl (by decide)) (h 50 (by decide)) (by decide +kernel) (by decide) (by decide) (by decide) (fun ad => ?_)
  refine Rn.dup dX5_init_29 rfl ?_
  refine Rn.ctorY (mc := 70) (n := 51) (n2 := 54) (As := []) dX5_init_30 (Or.inr mi_X5_17) rfl rfl rfl (Nat.le_of_ble_eq_true rfl) (cn_CoastM_1 _ _ _ (h 51 (by decide)) (h 52 (by decide)) (h 53 (by decide))) rfl rfl (by decide +kernel) (by decide) (by decide) (fun ad => ?_)
  refine Rn.aast (ci := 0) (j := 1) dX5_init_33 rfl rfl rfl (by decide) (by decide) ?_
  refine Rn.wld (wM 2) (by rw [fM_up 1]; rfl) ?_
  refine Rn.iincN dX5_init_34 rfl (by decide) ?_
  refine Rn.goto 15 dX5_init_37 (by decide) ?_
  refine Rn.iload_n dX5_init_15 rfl rfl ?_
  refine Rn.bipush (v := (nI 12)) dX5_init_16 rfl ?_
  refine Rn.icmp_ge (tgt := 40) dX5_init_18 (by decide) (fun h9 => absurd h9 (by decide)) (fun _ => ?_)
  refine Rn.aload_n dX5_init_21 rfl rfl ?_
  refine Rn.getR dX5_init_22 fd_X5_11_4 (by first | rfl | exact gC0 (by assumption) | exact gL0 (by assumption)) rfl ?_
  refine Rn.iload_n dX5_init_25 rfl rfl ?_
  refine Rn.newY (n := 54) (k := 2) dX5_init_26 nw_X5_9 rfl (zOKs 45 (by decide +kernel) rfl (by decide)) (h 54 (by decide)) (by decide +kernel) (by decide) (by decide) (by decide) (fun ad => ?_)
  refine Rn.dup dX5_init_29 rfl ?_
  refine Rn.ctorY (mc := 70) (n := 55) (n2 := 58) (As := []) dX5_init_30 (Or.inr mi_X5_17) rfl rfl rfl (Nat.le_of_ble_eq_true rfl) (cn_CoastM_2 _ _ _ (h 55 (by decide)) (h 56 (by decide)) (h 57 (by decide))) rfl rfl (by decide +kernel) (by decide) (by decide) (fun ad => ?_)
  refine Rn.aast (ci := 0) (j := 2) dX5_init_33 rfl rfl rfl (by decide) (by decide) ?_
  refine Rn.wld (wM 3) (by rw [fM_up 2]; rfl) ?_
  refine Rn.iincN dX5_init_34 rfl (by decide) ?_
  refine Rn.goto 15 dX5_init_37 (by decide) ?_
  refine Rn.iload_n dX5_init_15 rfl rfl ?_
  refine Rn.bipush (v := (nI 12)) dX5_init_16 rfl ?_
  refine Rn.icmp_ge (tgt := 40) dX5_init_18 (by decide) (fun h9 => absurd h9 (by decide)) (fun _ => ?_)
  refine Rn.aload_n dX5_init_21 rfl rfl ?_
  refine Rn.getR dX5_init_22 fd_X5_11_4 (by first | rfl | exact gC0 (by assumption) | exact gL0 (by assumption)) rfl ?_
  refine Rn.iload_n dX5_init_25 rfl rfl ?_
  refine Rn.newY (n := 58) (k := 2) dX5_init_26 nw_X5_9 rfl (zOKs 45 (by decide +kernel) rfl (by decide)) (h 58 (by decide)) (by decide +kernel) (by decide) (by decide) (by decide) (fun ad => ?_)
  refine Rn.dup dX5_init_29 rfl ?_
  refine Rn.ctorY (mc := 70) (n := 59) (n2 := 62) (As := []) dX5_init_30 (Or.inr mi_X5_17) rfl rfl rfl (Nat.le_of_ble_eq_true rfl) (cn_CoastM_3 _ _ _ (h 59 (by decide)) (h 60 (by decide)) (h 61 (by decide))) rfl rfl (by decide +kernel) (by decide) (by decide) (fun ad => ?_)
  refine Rn.aast (ci := 0) (j := 3) dX5_init_33 rfl rfl rfl (by decide) (by decide) ?_
  refine Rn.wld (wM 4) (by rw [fM_up 3]; rfl) ?_
  refine Rn.iincN dX5_init_34 rfl (by decide) ?_
  refine Rn.goto 15 dX5_init_37 (by decide) ?_
  refine Rn.iload_n dX5_init_15 rfl rfl ?_
  refine Rn.bipush (v := (nI 12)) dX5_init_16 rfl ?_
  refine Rn.icmp_ge (tgt := 40) dX5_init_18 (by decide) (fun h9 => absurd h9 (by decide)) (fun _ => ?_)
  refine Rn.aload_n dX5_init_21 rfl rfl ?_
  refine Rn.getR dX5_init_22 fd_X5_11_4 (by first | rfl | exact gC0 (by assumption) | exact gL0 (by assumption)) rfl ?_
  refine Rn.iload_n dX5_init_25 rfl rfl ?_
  refine Rn.newY (n := 62) (k := 2) dX5_init_26 nw_X5_9 rfl (zOKs 45 (by decide +kernel) rfl (by decide)) (h 62 (by decide)) (by decide +kernel) (by decide) (by decide) (by decide) (fun ad => ?_)
  refine Rn.dup dX5_init_29 rfl ?_
  refine Rn.ctorY (mc := 70) (n := 63) (n2 := 66) (As := []) dX5_init_30 (Or.inr mi_X5_17) rfl rfl rfl (Nat.le_of_ble_eq_true rfl) (cn_CoastM_4 _ _ _ (h 63 (by decide)) (h 64 (by decide)) (h 65 (by decide))) rfl rfl (by decide +kernel) (by decide) (by decide) (fun ad => ?_)
  refine Rn.aast (ci := 0) (j := 4) dX5_init_33 rfl rfl rfl (by decide) (by decide) ?_
  refine Rn.wld (wM 5) (by rw [fM_up 4]; rfl) ?_
  refine Rn.iincN dX5_init_34 rfl (by decide) ?_
  refine Rn.goto 15 dX5_init_37 (by decide) ?_
  refine Rn.iload_n dX5_init_15 rfl rfl ?_
  refine Rn.bipush (v := (nI 12)) dX5_init_16 rfl ?_
  refine Rn.icmp_ge (tgt := 40) dX5_init_18 (by decide) (fun h9 => absurd h9 (by decide)) (fun _ => ?_)
  refine Rn.aload_n dX5_init_21 rfl rfl ?_
  refine Rn.getR dX5_init_22 fd_X5_11_4 (by first | rfl | exact gC0 (by assumption) | exact gL0 (by assumption)) rfl ?_
  refine Rn.iload_n dX5_init_25 rfl rfl ?_
  refine Rn.newY (n := 66) (k := 2) dX5_init_26 nw_X5_9 rfl (zOKs 45 (by decide +kernel) rfl (by decide)) (h 66 (by decide)) (by decide +kernel) (by decide) (by decide) (by decide) (fun ad => ?_)
  refine Rn.dup dX5_init_29 rfl ?_
  refine Rn.ctorY (mc := 70) (n := 67) (n2 := 70) (As := []) dX5_init_30 (Or.inr mi_X5_17) rfl rfl rfl (Nat.le_of_ble_eq_true rfl) (cn_CoastM_5 _ _ _ (h 67 (by decide)) (h 68 (by decide)) (h 69 (by decide))) rfl rfl (by decide +kernel) (by decide) (by decide) (fun ad => ?_)
  refine Rn.aast (ci := 0) (j := 5) dX5_init_33 rfl rfl rfl (by decide) (by decide) ?_
  refine Rn.wld (wM 6) (by rw [fM_up 5]; rfl) ?_
  refine Rn.iincN dX5_init_34 rfl (by decide) ?_
  refine Rn.goto 15 dX5_init_37 (by decide) ?_
  refine Rn.iload_n dX5_init_15 rfl rfl ?_
  refine Rn.bipush (v := (nI 12)) dX5_init_16 rfl ?_
  refine Rn.icmp_ge (tgt := 40) dX5_init_18 (by decide) (fun h9 => absurd h9 (by decide)) (fun _ => ?_)
  refine Rn.aload_n dX5_init_21 rfl rfl ?_
  refine Rn.getR dX5_init_22 fd_X5_11_4 (by first | rfl | exact gC0 (by assumption) | exact gL0 (by assumption)) rfl ?_
  refine Rn.iload_n dX5_init_25 rfl rfl ?_
  refine Rn.newY (n := 70) (k := 2) dX5_init_26 nw_X5_9 rfl (zOKs 45 (by decide +kernel) rfl (by decide)) (h 70 (by decide)) (by decide +kernel) (by decide) (by decide) (by decide) (fun ad => ?_)
  refine Rn.dup dX5_init_29 rfl ?_
  refine Rn.ctorY (mc := 70) (n := 71) (n2 := 74) (As := []) dX5_init_30 (Or.inr mi_X5_17) rfl rfl rfl (Nat.le_of_ble_eq_true rfl) (cn_CoastM_6 _ _ _ (h 71 (by decide)) (h 72 (by decide)) (h 73 (by decide))) rfl rfl (by decide +kernel) (by decide) (by decide) (fun ad => ?_)
  refine Rn.aast (ci := 0) (j := 6) dX5_init_33 rfl rfl rfl (by decide) (by decide) ?_
  refine Rn.wld (wM 7) (by rw [fM_up 6]; rfl) ?_
  refine Rn.iincN dX5_init_34 rfl (by decide) ?_
  refine Rn.goto 15 dX5_init_37 (by decide) ?_
  refine Rn.iload_n dX5_init_15 rfl rfl ?_
  refine Rn.bipush (v := (nI 12)) dX5_init_16 rfl ?_
  refine Rn.icmp_ge (tgt := 40) dX5_init_18 (by decide) (fun h9 => absurd h9 (by decide)) (fun _ => ?_)
  refine Rn.aload_n dX5_init_21 rfl rfl ?_
  refine Rn.getR dX5_init_22 fd_X5_11_4 (by first | rfl | exact gC0 (by assumption) | exact gL0 (by assumption)) rfl ?_
  refine Rn.iload_n dX5_init_25 rfl rfl ?_
  refine Rn.newY (n := 74) (k := 2) dX5_init_26 nw_X5_9 rfl (zOKs 45 (by decide +kernel) rfl (by decide)) (h 74 (by decide)) (by decide +kernel) (by decide) (by decide) (by decide) (fun ad => ?_)
  refine Rn.dup dX5_init_29 rfl ?_
  refine Rn.ctorY (mc := 70) (n := 75) (n2 := 78) (As := []) dX5_init_30 (Or.inr mi_X5_17) rfl rfl rfl (Nat.le_of_ble_eq_true rfl) (cn_CoastM_7 _ _ _ (h 75 (by decide)) (h 76 (by decide)) (h 77 (by decide))) rfl rfl (by decide +kernel) (by decide) (by decide) (fun ad => ?_)
  refine Rn.aast (ci := 0) (j := 7) dX5_init_33 rfl rfl rfl (by decide) (by decide) ?_
  refine Rn.wld (wM 8) (by rw [fM_up 7]; rfl) ?_
  refine Rn.iincN dX5_init_34 rfl (by decide) ?_
  refine Rn.goto 15 dX5_init_37 (by decide) ?_
  refine Rn.iload_n dX5_init_15 rfl rfl ?_
  refine Rn.bipush (v := (nI 12)) dX5_init_16 rfl ?_
  refine Rn.icmp_ge (tgt := 40) dX5_init_18 (by decide) (fun h9 => absurd h9 (by decide)) (fun _ => ?_)
  refine Rn.aload_n dX5_init_21 rfl rfl ?_
  refine Rn.getR dX5_init_22 fd_X5_11_4 (by first | rfl | exact gC0 (by assumption) | exact gL0 (by assumption)) rfl ?_
  refine Rn.iload_n dX5_init_25 rfl rfl ?_
  refine Rn.newY (n := 78) (k := 2) dX5_init_26 nw_X5_9 rfl (zOKs 45 (by decide +kernel) rfl (by decide)) (h 78 (by decide)) (by decide +kernel) (by decide) (by decide) (by decide) (fun ad => ?_)
  refine Rn.dup dX5_init_29 rfl ?_
  refine Rn.ctorY (mc := 70) (n := 79) (n2 := 82) (As := []) dX5_init_30 (Or.inr mi_X5_17) rfl rfl rfl (Nat.le_of_ble_eq_true rfl) (cn_CoastM_8 _ _ _ (h 79 (by decide)) (h 80 (by decide)) (h 81 (by decide))) rfl rfl (by decide +kernel) (by decide) (by decide) (fun ad => ?_)
  refine Rn.aast (ci := 0) (j := 8) dX5_init_33 rfl rfl rfl (by decide) (by decide) ?_
  refine Rn.wld (wM 9) (by rw [fM_up 8]; rfl) ?_
  refine Rn.iincN dX5_init_34 rfl (by decide) ?_
  refine Rn.goto 15 dX5_init_37 (by decide) ?_
  refine Rn.iload_n dX5_init_15 rfl rfl ?_
  refine Rn.bipush (v := (nI 12)) dX5_init_16 rfl ?_
  refine Rn.icmp_ge (tgt := 40) dX5_init_18 (by decide) (fun h9 => absurd h9 (by decide)) (fun _ => ?_)
  refine Rn.aload_n dX5_init_21 rfl rfl ?_
  refine Rn.getR dX5_init_22 fd_X5_11_4 (by first | rfl | exact gC0 (by assumption) | exact gL0 (by assumption)) rfl ?_
  refine Rn.iload_n dX5_init_25 rfl rfl ?_
  refine Rn.newY (n := 82) (k := 2) dX5_init_26 nw_X5_9 rfl (zOKs 45 (by decide +kernel) rfl (by decide)) (h 82 (by decide)) (by decide +kernel) (by decide) (by decide) (by decide) (fun ad => ?_)
  refine Rn.dup dX5_init_29 rfl ?_
  refine Rn.ctorY (mc := 70) (n := 83) (n2 := 86) (As := []) dX5_init_30 (Or.inr mi_X5_17) rfl rfl rfl (Nat.le_of_ble_eq_true rfl) (cn_CoastM_9 _ _ _ (h 83 (by decide)) (h 84 (by decide)) (h 85 (by decide))) rfl rfl (by decide +kernel) (by decide) (by decide) (fun ad => ?_)
  refine Rn.aast (ci := 0) (j := 9) dX5_init_33 rfl rfl rfl (by decide) (by decide) ?_
  refine Rn.wld (wM 10) (by rw [fM_up 9]; rfl) ?_
  refine Rn.iincN dX5_init_34 rfl (by decide) ?_
  refine Rn.goto 15 dX5_init_37 (by decide) ?_
  refine Rn.iload_n dX5_init_15 rfl rfl ?_
  refine Rn.bipush (v := (nI 12)) dX5_init_16 rfl ?_
  refine Rn.icmp_ge (tgt := 40) dX5_init_18 (by decide) (fun h9 => absurd h9 (by decide)) (fun _ => ?_)
  refine Rn.aload_n dX5_init_21 rfl rfl ?_
  refine Rn.getR dX5_init_22 fd_X5_11_4 (by first | rfl | exact gC0 (by assumption) | exact gL0 (by assumption)) rfl ?_
  refine Rn.iload_n dX5_init_25 rfl rfl ?_
  refine Rn.newY (n := 86) (k := 2) dX5_init_26 nw_X5_9 rfl (zOKs 45 (by decide +kernel) rfl (by decide)) (h 86 (by decide)) (by decide +kernel) (by decide) (by decide) (by decide) (fun ad => ?_)
  refine Rn.dup dX5_init_29 rfl ?_
  refine Rn.ctorY (mc := 70) (n := 87) (n2 := 90) (As := []) dX5_init_30 (Or.inr mi_X5_17) rfl rfl rfl (Nat.le_of_ble_eq_true rfl) (cn_CoastM_10 _ _ _ (h 87 (by decide)) (h 88 (by decide)) (h 89 (by decide))) rfl rfl (by decide +kernel) (by decide) (by decide) (fun ad => ?_)
  refine Rn.aast (ci := 0) (j := 10) dX5_init_33 rfl rfl rfl (by decide) (by decide) ?_
  refine Rn.wld (wM 11) (by rw [fM_up 10]; rfl) ?_
  refine Rn.iincN dX5_init_34 rfl (by decide) ?_
  refine Rn.goto 15 dX5_init_37 (by decide) ?_
  refine Rn.iload_n dX5_init_15 rfl rfl ?_
  refine Rn.bipush (v := (nI 12)) dX5_init_16 rfl ?_
  refine Rn.icmp_ge (tgt := 40) dX5_init_18 (by decide) (fun h9 => absurd h9 (by decide)) (fun _ => ?_)
  refine Rn.aload_n dX5_init_21 rfl rfl ?_
  refine Rn.getR dX5_init_22 fd_X5_11_4 (by first | rfl | exact gC0 (by assumption) | exact gL0 (by assumption)) rfl ?_
  refine Rn.iload_n dX5_init_25 rfl rfl ?_
  refine Rn.newY (n := 90) (k := 2) dX5_init_26 nw_X5_9 rfl (zOKs 45 (by decide +kernel) rfl (by decide)) (h 90 (by decide)) (by decide +kernel) (by decide) (by decide) (by decide) (fun ad => ?_)
  refine Rn.dup dX5_init_29 rfl ?_
  refine Rn.ctorY (mc := 70) (n := 91) (n2 := 94) (As := []) dX5_init_30 (Or.inr mi_X5_17) rfl rfl rfl (Nat.le_of_ble_eq_true rfl) (cn_CoastM_11 _ _ _ (h 91 (by decide)) (h 92 (by decide)) (h 93 (by decide))) rfl rfl (by decide +kernel) (by decide) (by decide) (fun ad => ?_)
  refine Rn.aast (ci := 0) (j := 11) dX5_init_33 rfl rfl rfl (by decide) (by decide) ?_
  refine Rn.wld (wM 12) (by rw [fM_up 11]; rfl) ?_
  refine Rn.iincN dX5_init_34 rfl (by decide) ?_
  refine Rn.goto 15 dX5_init_37 (by decide) ?_
  refine Rn.iload_n dX5_init_15 rfl rfl ?_
  refine Rn.bipush (v := (nI 12)) dX5_init_16 rfl ?_
  refine Rn.icmp_ge (tgt := 40) dX5_init_18 (by decide) (fun _ => ?_) (fun h9 => absurd h9 (by decide))
  exact Rn.nretY dX5_init_40 rfl rfl rfl
def jB (I : Hi) : Hi := zup (jM (zup (zup (zup (zup (zup (jC (jC (jC I 3) 7) 11) 16 0 (-1)) 23 0 (-1)) 30 0 (-1)) 37 0 (nI 14)) 38 0 (nI 12)) 12) 0 12 (-1)
set_option maxHeartbeats 8000000 in
theorem cn_BL (h : ∀ k, 1 ≤ k → I k = fun _ => 0) : Cn G (wB 0 0) mX9_init (d + 3) 2000 [.ref 0] I (GAM.take 94) (jB I) := by
  refine Cn.mkY [some (.ref 0)] rfl (fun ad => ?_)
  refine Rn.aload_n dX9_init_0 rfl rfl ?_
  refine Rn.objI dX9_init_1 ob_X9_1 (Nat.le_of_ble_eq_true rfl) ?_
  refine Rn.aload_n dX9_init_4 rfl rfl ?_
  refine Rn.newY (n := 1) (k := 2) dX9_init_5 nw_X9_7 rfl (zOKb (by decide +kernel)) (h 1 (by decide)) (by decide +kernel) (by decide) (by decide) (by decide) (fun ad => ?_)
  refine Rn.dup dX9_init_8 rfl ?_
  refine Rn.ctorY (mc := 70) (n := 2) (n2 := 3) (As := []) dX9_init_9 (Or.inr mi_X9_9) rfl rfl rfl (Nat.le_of_ble_eq_true rfl) (cn_Tape _ _ _ (h 2 (by decide))) rfl rfl (by decide +kernel) (by decide) (by decide) (fun ad => ?_)
  refine Rn.putR dX9_init_12 fp_X9_10_8 rfl (by first | rfl | exact gC0 (by assumption) | exact gL0 (by assumption)) rfl (fun _ => ⟨rfl, rfl⟩) ?_
  refine Rn.aload_n dX9_init_15 rfl rfl ?_
  refine Rn.newY (n := 3) (k := 2) dX9_init_16 nw_X9_16 rfl (zOKb (by decide +kernel)) (h 3 (by decide)) (by decide +kernel) (by decide) (by decide) (by decide) (fun ad => ?_)
  refine Rn.dup dX9_init_19 rfl ?_
  refine Rn.ctorY (mc := 70) (n := 4) (n2 := 7) (As := []) dX9_init_20 (Or.inr mi_X9_18) rfl rfl rfl (Nat.le_of_ble_eq_true rfl) (cn_Coast_3 _ _ _ (h 4 (by decide)) (h 5 (by decide)) (h 6 (by decide))) rfl rfl (by decide +kernel) (by decide) (by decide) (fun ad => ?_)
  refine Rn.putR dX9_init_23 fp_X9_19_8 rfl (by first | rfl | exact gC0 (by assumption) | exact gL0 (by assumption)) rfl (fun _ => ⟨rfl, rfl⟩) ?_
  refine Rn.aload_n dX9_init_26 rfl rfl ?_
  refine Rn.newY (n := 7) (k := 2) dX9_init_27 nw_X9_16 rfl (zOKb (by decide +kernel)) (h 7 (by decide)) (by decide +kernel) (by decide) (by decide) (by decide) (fun ad => ?_)
  refine Rn.dup dX9_init_30 rfl ?_
  refine Rn.ctorY (mc := 70) (n := 8) (n2 := 11) (As := []) dX9_init_31 (Or.inr mi_X9_18) rfl rfl rfl (Nat.le_of_ble_eq_true rfl) (cn_Coast_7 _ _ _ (h 8 (by decide)) (h 9 (by decide)) (h 10 (by decide))) rfl rfl (by decide +kernel) (by decide) (by decide) (fun ad => ?_)
  refine Rn.putR dX9_init_34 fp_X9_23_8 rfl (by first | rfl | exact gC0 (by assumption) | exact gL0 (by assumption)) rfl (fun _ => ⟨rfl, rfl⟩) ?_
  refine Rn.aload_n dX9_init_37 rfl rfl ?_
  refine Rn.newY (n := 11) (k := 2) dX9_init_38 nw_X9_16 rfl (zOKb (by decide +kernel)) (h 11 (by decide)) (by decide +kernel) (by decide) (by decide) (by decide) (fun ad => ?_)
  refine Rn.dup dX9_init_41 rfl ?_
  refine Rn.ctorY (mc := 70) (n := 12) (n2 := 15) (As := []) dX9_init_42 (Or.inr mi_X9_18) rfl rfl rfl (Nat.le_of_ble_eq_true rfl) (cn_Coast_11 _ _ _ (h 12 (by decide)) (h 13 (by decide)) (h 14 (by decide))) rfl rfl (by decide +kernel) (by decide) (by decide) (fun ad => ?_)
  refine Rn.putR dX9_init_45 fp_X9_26_8 rfl (by first | rfl | exact gC0 (by assumption) | exact gL0 (by assumption)) rfl (fun _ => ⟨rfl, rfl⟩) ?_
  refine Rn.aload_n dX9_init_48 rfl rfl ?_
  refine Rn.newY (n := 15) (k := 1) dX9_init_49 nw_X9_29 rfl (zOKb (by decide +kernel)) (h 15 (by decide)) (by decide +kernel) (by decide) (by decide) (by decide) (fun ad => ?_)
  refine Rn.dup dX9_init_52 rfl ?_
  refine Rn.ctorY (mc := 110) (n := 16) (n2 := 23) (As := []) dX9_init_53 (Or.inr mi_X9_31) rfl rfl rfl (Nat.le_of_ble_eq_true rfl) (cn_Rites _ _ _ (h 16 (by decide)) (h 17 (by decide)) (h 18 (by decide)) (h 19 (by decide)) (h 20 (by decide)) (h 21 (by decide)) (h 22 (by decide))) rfl rfl (by decide +kernel) (by decide) (by decide) (fun ad => ?_)
  refine Rn.putR dX9_init_56 fp_X9_32_8 rfl (by first | rfl | exact gC0 (by assumption) | exact gL0 (by assumption)) rfl (fun _ => ⟨rfl, rfl⟩) ?_
  refine Rn.aload_n dX9_init_59 rfl rfl ?_
  refine Rn.newY (n := 23) (k := 2) dX9_init_60 nw_X9_36 rfl (zOKb (by decide +kernel)) (h 23 (by decide)) (by decide +kernel) (by decide) (by decide) (by decide) (fun ad => ?_)
  refine Rn.dup dX9_init_63 rfl ?_
  refine Rn.ctorY (mc := 100) (n := 24) (n2 := 30) (As := []) dX9_init_64 (Or.inr mi_X9_38) rfl rfl rfl (Nat.le_of_ble_eq_true rfl) (cn_Law_23 _ _ _ (h 24 (by decide)) (h 25 (by decide)) (h 26 (by decide)) (h 27 (by decide)) (h 28 (by decide)) (h 29 (by decide))) rfl rfl (by decide +kernel) (by decide) (by decide) (fun ad => ?_)
  refine Rn.putR dX9_init_67 fp_X9_39_8 rfl (by first | rfl | exact gC0 (by assumption) | exact gL0 (by assumption)) rfl (fun _ => ⟨rfl, rfl⟩) ?_
  refine Rn.aload_n dX9_init_70 rfl rfl ?_
  refine Rn.newY (n := 30) (k := 2) dX9_init_71 nw_X9_36 rfl (zOKb (by decide +kernel)) (h 30 (by decide)) (by decide +kernel) (by decide) (by decide) (by decide) (fun ad => ?_)
  refine Rn.dup dX9_init_74 rfl ?_
  refine Rn.ctorY (mc := 100) (n := 31) (n2 := 37) (As := []) dX9_init_75 (Or.inr mi_X9_38) rfl rfl rfl (Nat.le_of_ble_eq_true rfl) (cn_Law_30 _ _ _ (h 31 (by decide)) (h 32 (by decide)) (h 33 (by decide)) (h 34 (by decide)) (h 35 (by decide)) (h 36 (by decide))) rfl rfl (by decide +kernel) (by decide) (by decide) (fun ad => ?_)
  refine Rn.putR dX9_init_78 fp_X9_43_8 rfl (by first | rfl | exact gC0 (by assumption) | exact gL0 (by assumption)) rfl (fun _ => ⟨rfl, rfl⟩) ?_
  refine Rn.aload_n dX9_init_81 rfl rfl ?_
  refine Rn.newY (n := 37) (k := 1) dX9_init_82 nw_X9_46 rfl (zOKb (by decide +kernel)) (h 37 (by decide)) (by decide +kernel) (by decide) (by decide) (by decide) (fun ad => ?_)
  refine Rn.dup dX9_init_85 rfl ?_
  refine Rn.aload_n dX9_init_86 rfl rfl ?_
  refine Rn.getR dX9_init_87 fd_X9_10_8 (by first | rfl | exact gC0 (by assumption) | exact gL0 (by assumption)) rfl ?_
  refine Rn.aload_n dX9_init_90 rfl rfl ?_
  refine Rn.getR dX9_init_91 fd_X9_23_8 (by first | rfl | exact gC0 (by assumption) | exact gL0 (by assumption)) rfl ?_
  refine Rn.ctorY (mc := 0) (n := 38) (n2 := 38) (As := [_, _]) dX9_init_94 (Or.inl mi_X9_48) rfl rfl rfl (Nat.le_of_ble_eq_true rfl) (cn_CoastReader _ _ _) rfl rfl (by decide +kernel) (by decide) (by decide) (fun ad => ?_)
  refine Rn.putR dX9_init_97 fp_X9_51_8 rfl (by first | rfl | exact gC0 (by assumption) | exact gL0 (by assumption)) rfl (fun _ => ⟨rfl, rfl⟩) ?_
  refine Rn.aload_n dX9_init_100 rfl rfl ?_
  refine Rn.newY (n := 38) (k := 1) dX9_init_101 nw_X9_55 rfl (zOKb (by decide +kernel)) (h 38 (by decide)) (by decide +kernel) (by decide) (by decide) (by decide) (fun ad => ?_)
  refine Rn.dup dX9_init_104 rfl ?_
  refine Rn.aload_n dX9_init_105 rfl rfl ?_
  refine Rn.getR dX9_init_106 fd_X9_10_8 (by first | rfl | exact gC0 (by assumption) | exact gL0 (by assumption)) rfl ?_
  refine Rn.aload_n dX9_init_109 rfl rfl ?_
  refine Rn.getR dX9_init_110 fd_X9_39_8 (by first | rfl | exact gC0 (by assumption) | exact gL0 (by assumption)) rfl ?_
  refine Rn.ctorY (mc := 0) (n := 39) (n2 := 39) (As := [_, _]) dX9_init_113 (Or.inl mi_X9_57) rfl rfl rfl (Nat.le_of_ble_eq_true rfl) (cn_LawReader _ _ _) rfl rfl (by decide +kernel) (by decide) (by decide) (fun ad => ?_)
  refine Rn.putR dX9_init_116 fp_X9_60_8 rfl (by first | rfl | exact gC0 (by assumption) | exact gL0 (by assumption)) rfl (fun _ => ⟨rfl, rfl⟩) ?_
  refine Rn.aload_n dX9_init_119 rfl rfl ?_
  refine Rn.newY (n := 39) (k := 2) dX9_init_120 nw_X9_64 rfl (zOKb (by decide +kernel)) (h 39 (by decide)) (by decide +kernel) (by decide) (by decide) (by decide) (fun ad => ?_)
  refine Rn.dup dX9_init_123 rfl ?_
  refine Rn.aload_n dX9_init_124 rfl rfl ?_
  refine Rn.getR dX9_init_125 fd_X9_32_8 (by first | rfl | exact gC0 (by assumption) | exact gL0 (by assumption)) rfl ?_
  refine Rn.aload_n dX9_init_128 rfl rfl ?_
  refine Rn.getR dX9_init_129 fd_X9_23_8 (by first | rfl | exact gC0 (by assumption) | exact gL0 (by assumption)) rfl ?_
  refine Rn.ctorY (mc := 20) (n := 40) (n2 := 44) (As := [_, _]) dX9_init_132 (Or.inl mi_X9_66) rfl rfl rfl (Nat.le_of_ble_eq_true rfl) (cn_Search _ _ _ (fun k hk => by rw [zup_ne _ _ (by omega), zup_ne _ _ (by omega), zup_ne _ _ (by omega), zup_ne _ _ (by omega), zup_ne _ _ (by omega), jC_ne _ (by omega), jC_ne _ (by omega), jC_ne _ (by omega)]; exact h k (by omega))) rfl rfl (by decide +kernel) (by decide) (by decide) (fun ad => ?_)
  refine Rn.putR dX9_init_135 fp_X9_69_8 rfl (by first | rfl | exact gC0 (by assumption) | exact gL0 (by assumption)) rfl (fun _ => ⟨rfl, rfl⟩) ?_
  refine Rn.aload_n dX9_init_138 rfl rfl ?_
  refine Rn.newY (n := 44) (k := 1) dX9_init_139 nw_X9_73 rfl (zOKb (by decide +kernel)) (h 44 (by decide)) (by decide +kernel) (by decide) (by decide) (by decide) (fun ad => ?_)
  refine Rn.dup dX9_init_142 rfl ?_
  refine Rn.ctorY (mc := 900) (n := 45) (n2 := 94) (As := []) dX9_init_143 (Or.inl mi_X9_75) rfl rfl rfl (Nat.le_of_ble_eq_true rfl) (cn_Memory _ _ _ (fun k hk => by rw [zup_ne _ _ (by omega), zup_ne _ _ (by omega), zup_ne _ _ (by omega), zup_ne _ _ (by omega), zup_ne _ _ (by omega), jC_ne _ (by omega), jC_ne _ (by omega), jC_ne _ (by omega)]; exact h k (by omega))) rfl rfl (by decide +kernel) (by decide) (by decide) (fun ad => ?_)
  refine Rn.putR dX9_init_146 fp_X9_76_8 rfl (by first | rfl | exact gC0 (by assumption) | exact gL0 (by assumption)) rfl (fun _ => ⟨rfl, rfl⟩) ?_
  refine Rn.aload_n dX9_init_149 rfl rfl ?_
  refine Rn.iconst (v := (-1)) dX9_init_150 rfl ?_
  refine Rn.putI dX9_init_151 fp_X9_80_8 (by first | rfl | exact gC0 (by assumption) | exact gL0 (by assumption)) rfl ?_
  refine Rn.wld (GAM.take 94) rfl ?_
  exact Rn.nretY dX9_init_154 rfl rfl rfl
set_option maxHeartbeats 8000000 in
theorem cn_Model (h : ∀ k, 94 ≤ k → I k = fun _ => 0) : Cn G (GAM.take 94 ++ [.inl (9, [none, some none, some none, some none, some none, some none, none, none, some none, none, none, none, none, none, none, some none, none, some none, some none, some none, some none, none, some none])]) mX10_init (d + 1) 2000 [.ref 94] I (GAM.take 107) (zup (zup (zup (zup I 94 14 (-1)) 95 5 (nI 5)) 95 6 (nI 20)) 95 8 (nI 1)) := by
  refine Cn.mkY [some (.ref 94)] rfl (fun ad => ?_)
  refine Rn.aload_n dX10_init_0 rfl rfl ?_
  refine Rn.objI dX10_init_1 ob_X10_7 (Nat.le_of_ble_eq_true rfl) ?_
  refine Rn.aload_n dX10_init_4 rfl rfl ?_
  refine Rn.sipush (v := (nI 2075)) dX10_init_5 rfl ?_
  refine Rn.newaY (n := 95) (k := 346) (len := 2075) dX10_init_8 rfl (by decide) wi_167 rfl (by decide) rfl (zOKs 45 (by decide +kernel) rfl (by decide)) (h 95 (by decide)) (by decide +kernel) (by decide) (by decide) (by decide) (fun ad => ?_)
  refine Rn.putR dX10_init_10 fp_X10_13_9 rfl (by first | rfl | exact gC0 (by assumption) | exact gL0 (by assumption)) rfl (fun _ => ⟨rfl, rfl⟩) ?_
  refine Rn.aload_n dX10_init_13 rfl rfl ?_
  refine Rn.sipush (v := (nI 1226)) dX10_init_14 rfl ?_
  refine Rn.newaY (n := 96) (k := 205) (len := 1226) dX10_init_17 rfl (by decide) wi_167 rfl (by decide) rfl (zOKs 45 (by decide +kernel) rfl (by decide)) (h 96 (by decide)) (by decide +kernel) (by decide) (by decide) (by decide) (fun ad => ?_)
  refine Rn.putR dX10_init_19 fp_X10_17_9 rfl (by first | rfl | exact gC0 (by assumption) | exact gL0 (by assumption)) rfl (fun _ => ⟨rfl, rfl⟩) ?_
  refine Rn.aload_n dX10_init_22 rfl rfl ?_
  refine Rn.sipush (v := (nI 1226)) dX10_init_23 rfl ?_
  refine Rn.newaY (n := 97) (k := 205) (len := 1226) dX10_init_26 rfl (by decide) wi_167 rfl (by decide) rfl (zOKs 45 (by decide +kernel) rfl (by decide)) (h 97 (by decide)) (by decide +kernel) (by decide) (by decide) (by decide) (fun ad => ?_)
  refine Rn.putR dX10_init_28 fp_X10_20_9 rfl (by first | rfl | exact gC0 (by assumption) | exact gL0 (by assumption)) rfl (fun _ => ⟨rfl, rfl⟩) ?_
  refine Rn.aload_n dX10_init_31 rfl rfl ?_
  refine Rn.sipush (v := (nI 377)) dX10_init_32 rfl ?_
  refine Rn.newaY (n := 98) (k := 63) (len := 377) dX10_init_35 rfl (by decide) wi_167 rfl (by decide) rfl (zOKs 45 (by decide +kernel) rfl (by decide)) (h 98 (by decide)) (by decide +kernel) (by decide) (by decide) (by decide) (fun ad => ?_)
  refine Rn.putR dX10_init_37 fp_X10_23_9 rfl (by first | rfl | exact gC0 (by assumption) | exact gL0 (by assumption)) rfl (fun _ => ⟨rfl, rfl⟩) ?_
  refine Rn.aload_n dX10_init_40 rfl rfl ?_
  refine Rn.sipush (v := (nI 4524)) dX10_init_41 rfl ?_
  refine Rn.newaY (n := 99) (k := 754) (len := 4524) dX10_init_44 rfl (by decide) wi_167 rfl (by decide) rfl (zOKs 45 (by decide +kernel) rfl (by decide)) (h 99 (by decide)) (by decide +kernel) (by decide) (by decide) (by decide) (fun ad => ?_)
  refine Rn.putR dX10_init_46 fp_X10_26_9 rfl (by first | rfl | exact gC0 (by assumption) | exact gL0 (by assumption)) rfl (fun _ => ⟨rfl, rfl⟩) ?_
  refine Rn.aload_n dX10_init_49 rfl rfl ?_
  refine Rn.sipush (v := (nI 400)) dX10_init_50 rfl ?_
  refine Rn.newaY (n := 100) (k := 67) (len := 400) dX10_init_53 rfl (by decide) wi_742 rfl (by decide) rfl (zOKs 45 (by decide +kernel) rfl (by decide)) (h 100 (by decide)) (by decide +kernel) (by decide) (by decide) (by decide) (fun ad => ?_)
  refine Rn.putR dX10_init_55 fp_X10_29_9 rfl (by first | rfl | exact gC0 (by assumption) | exact gL0 (by assumption)) rfl (fun _ => ⟨rfl, rfl⟩) ?_
  refine Rn.aload_n dX10_init_58 rfl rfl ?_
  refine Rn.iconst (v := (-1)) dX10_init_59 rfl ?_
  refine Rn.putI dX10_init_60 fp_X10_33_9 (by first | rfl | exact gC0 (by assumption) | exact gL0 (by assumption)) rfl ?_
  refine Rn.aload_n dX10_init_63 rfl rfl ?_
  refine Rn.iconst (v := (nI 5)) dX10_init_64 rfl ?_
  refine Rn.newaY (n := 101) (k := 1) (len := 5) dX10_init_65 rfl (by decide) wi_167 rfl (by decide) rfl (zOKs 45 (by decide +kernel) rfl (by decide)) (h 101 (by decide)) (by decide +kernel) (by decide) (by decide) (by decide) (fun ad => ?_)
  refine Rn.putR dX10_init_67 fp_X10_36_9 rfl (by first | rfl | exact gC0 (by assumption) | exact gL0 (by assumption)) rfl (fun _ => ⟨rfl, rfl⟩) ?_
  refine Rn.aload_n dX10_init_70 rfl rfl ?_
  refine Rn.sipush (v := (nI 400)) dX10_init_71 rfl ?_
  refine Rn.newaY (n := 102) (k := 67) (len := 400) dX10_init_74 rfl (by decide) wi_167 rfl (by decide) rfl (zOKs 45 (by decide +kernel) rfl (by decide)) (h 102 (by decide)) (by decide +kernel) (by decide) (by decide) (by decide) (fun ad => ?_)
  refine Rn.putR dX10_init_76 fp_X10_39_9 rfl (by first | rfl | exact gC0 (by assumption) | exact gL0 (by assumption)) rfl (fun _ => ⟨rfl, rfl⟩) ?_
  refine Rn.aload_n dX10_init_79 rfl rfl ?_
  refine Rn.iconst (v := (nI 4)) dX10_init_80 rfl ?_
  refine Rn.newaY (n := 103) (k := 1) (len := 4) dX10_init_81 rfl (by decide) wi_167 rfl (by decide) rfl (zOKs 45 (by decide +kernel) rfl (by decide)) (h 103 (by decide)) (by decide +kernel) (by decide) (by decide) (by decide) (fun ad => ?_)
  refine Rn.putR dX10_init_83 fp_X10_42_9 rfl (by first | rfl | exact gC0 (by assumption) | exact gL0 (by assumption)) rfl (fun _ => ⟨rfl, rfl⟩) ?_
  refine Rn.aload_n dX10_init_86 rfl rfl ?_
  refine Rn.iconst (v := (nI 5)) dX10_init_87 rfl ?_
  refine Rn.newaY (n := 104) (k := 1) (len := 5) dX10_init_88 rfl (by decide) wi_167 rfl (by decide) rfl (zOKs 45 (by decide +kernel) rfl (by decide)) (h 104 (by decide)) (by decide +kernel) (by decide) (by decide) (by decide) (fun ad => ?_)
  refine Rn.putR dX10_init_90 fp_X10_45_9 rfl (by first | rfl | exact gC0 (by assumption) | exact gL0 (by assumption)) rfl (fun _ => ⟨rfl, rfl⟩) ?_
  refine Rn.aload_n dX10_init_93 rfl rfl ?_
  refine Rn.iconst (v := (nI 5)) dX10_init_94 rfl ?_
  refine Rn.newaY (n := 105) (k := 1) (len := 5) dX10_init_95 rfl (by decide) wi_167 rfl (by decide) rfl (zOKs 45 (by decide +kernel) rfl (by decide)) (h 105 (by decide)) (by decide +kernel) (by decide) (by decide) (by decide) (fun ad => ?_)
  refine Rn.putR dX10_init_97 fp_X10_48_9 rfl (by first | rfl | exact gC0 (by assumption) | exact gL0 (by assumption)) rfl (fun _ => ⟨rfl, rfl⟩) ?_
  refine Rn.aload_n dX10_init_100 rfl rfl ?_
  refine Rn.sipush (v := (nI 1536)) dX10_init_101 rfl ?_
  refine Rn.newaY (n := 106) (k := 256) (len := 1536) dX10_init_104 rfl (by decide) wi_167 rfl (by decide) rfl (zOKs 45 (by decide +kernel) rfl (by decide)) (h 106 (by decide)) (by decide +kernel) (by decide) (by decide) (by decide) (fun ad => ?_)
  refine Rn.putR dX10_init_106 fp_X10_51_9 rfl (by first | rfl | exact gC0 (by assumption) | exact gL0 (by assumption)) rfl (fun _ => ⟨rfl, rfl⟩) ?_
  refine Rn.aload_n dX10_init_109 rfl rfl ?_
  refine Rn.getR dX10_init_110 fd_X10_13_9 (by first | rfl | exact gC0 (by assumption) | exact gL0 (by assumption)) rfl ?_
  refine Rn.iconst (v := (nI 5)) dX10_init_113 rfl ?_
  refine Rn.iconst (v := (nI 5)) dX10_init_114 rfl ?_
  refine Rn.iastN dX10_init_115 (by first | rfl | exact gC1 (by assumption) | exact gC2 (by assumption) | exact gC3 (by assumption) | exact gL1 (by assumption) | exact gL2 (by assumption) | exact gL3 (by assumption) | exact gL4 (by assumption) | exact gL5 (by assumption) | exact gL6 (by assumption)) ?_
  refine Rn.aload_n dX10_init_116 rfl rfl ?_
  refine Rn.getR dX10_init_117 fd_X10_13_9 (by first | rfl | exact gC0 (by assumption) | exact gL0 (by assumption)) rfl ?_
  refine Rn.bipush (v := (nI 6)) dX10_init_120 rfl ?_
  refine Rn.bipush (v := (nI 20)) dX10_init_122 rfl ?_
  refine Rn.iastN dX10_init_124 (by first | rfl | exact gC1 (by assumption) | exact gC2 (by assumption) | exact gC3 (by assumption) | exact gL1 (by assumption) | exact gL2 (by assumption) | exact gL3 (by assumption) | exact gL4 (by assumption) | exact gL5 (by assumption) | exact gL6 (by assumption)) ?_
  refine Rn.aload_n dX10_init_125 rfl rfl ?_
  refine Rn.getR dX10_init_126 fd_X10_13_9 (by first | rfl | exact gC0 (by assumption) | exact gL0 (by assumption)) rfl ?_
  refine Rn.bipush (v := (nI 8)) dX10_init_129 rfl ?_
  refine Rn.iconst (v := (nI 1)) dX10_init_131 rfl ?_
  refine Rn.iastN dX10_init_132 (by first | rfl | exact gC1 (by assumption) | exact gC2 (by assumption) | exact gC3 (by assumption) | exact gL1 (by assumption) | exact gL2 (by assumption) | exact gL3 (by assumption) | exact gL4 (by assumption) | exact gL5 (by assumption) | exact gL6 (by assumption)) ?_
  refine Rn.wld (GAM.take 107) rfl ?_
  exact Rn.nretY dX10_init_133 rfl rfl rfl
end Init2
