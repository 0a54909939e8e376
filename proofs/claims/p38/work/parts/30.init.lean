abbrev mX8_init : Ym := (yX8_init, cX8_init, 1, none)
theorem dX8_init_0 : decode cX8_init 0 = .ok (.aload_n 0, 1) := by decide +kernel
theorem dX8_init_1 : decode cX8_init 1 = .ok (.invokespecial 3, 3) := by decide +kernel
theorem wi_139 : Cond.methodLink RX8 3 Lib.objectInit ∈ WA := zin 139 (by decide +kernel) (by decide +kernel)
theorem wi_132 : Cond.instanceMethod Lib.objectInit ∈ WA := zin 132 (by decide +kernel) (by decide +kernel)
theorem wi_133 : Cond.code Lib.objectInit ⟨#[0xb1]⟩ 1 none ∈ WA := zin 133 (by decide +kernel) (by decide +kernel)
theorem ob_X8_3 : zOb RX8 3 := ⟨wi_139, wi_132, wi_133⟩
theorem dX8_init_4 : decode cX8_init 4 = .ok (.aload_n 0, 1) := by decide +kernel
theorem dX8_init_5 : decode cX8_init 5 = .ok (.sipush 400, 3) := by decide +kernel
theorem dX8_init_8 : decode cX8_init 8 = .ok (.newarray .int, 2) := by decide +kernel
theorem wi_167 : Cond.arrayClass .int ∈ WA := zin 167 (by decide +kernel) (by decide +kernel)
theorem dX8_init_10 : decode cX8_init 10 = .ok (.putfield 9, 3) := by decide +kernel
theorem uw_X8 : ∀ w ∈ u_ws RX8 TX8 7, w ∈ WA := by decide +kernel
theorem wi_140 : Cond.fieldLink RX8 9 "BorrowedLuck$Tape" "bytes" "[I" ∈ WA := zin 140 (by decide +kernel) (by decide +kernel)
theorem fp_X8_9_7 : zFf RX8 9 7 0 (.array .int) := ⟨RX8, TX8, 7, "BorrowedLuck$Tape", tyX8, rfl, by decide, uw_X8, Or.inl rfl, Or.inl wi_140, tyX8_ok, nmX8, rfl, rfl, by decide +kernel⟩
theorem dX8_init_13 : decode cX8_init 13 = .ok (.return_, 1) := by decide +kernel
abbrev mX0_init : Ym := (yX0_init, cX0_init, 1, none)
theorem dX0_init_0 : decode cX0_init 0 = .ok (.aload_n 0, 1) := by decide +kernel
theorem dX0_init_1 : decode cX0_init 1 = .ok (.invokespecial 3, 3) := by decide +kernel
theorem wi_173 : Cond.methodLink RX0 3 Lib.objectInit ∈ WA := zin 173 (by decide +kernel) (by decide +kernel)
theorem ob_X0_3 : zOb RX0 3 := ⟨wi_173, wi_132, wi_133⟩
theorem dX0_init_4 : decode cX0_init 4 = .ok (.aload_n 0, 1) := by decide +kernel
theorem dX0_init_5 : decode cX0_init 5 = .ok (.iconst 5, 1) := by decide +kernel
theorem dX0_init_6 : decode cX0_init 6 = .ok (.putfield 9, 3) := by decide +kernel
theorem wi_189 : Cond.fieldLink RX0 9 "BorrowedLuck$Coast" "price" "I" ∈ WA := zin 189 (by decide +kernel) (by decide +kernel)
theorem fp_X0_9_0 : zFp RX0 9 0 4 .int := ⟨RX0, TX0, 12, "BorrowedLuck$Coast", tyX0, rfl, by decide, uw_X0, Or.inl rfl, Or.inl wi_189, tyX0_ok, nmX0, rfl, by decide +kernel⟩
theorem dX0_init_9 : decode cX0_init 9 = .ok (.aload_n 0, 1) := by decide +kernel
theorem dX0_init_10 : decode cX0_init 10 = .ok (.bipush 20, 2) := by decide +kernel
theorem dX0_init_12 : decode cX0_init 12 = .ok (.putfield 15, 3) := by decide +kernel
theorem wi_192 : Cond.fieldLink RX0 15 "BorrowedLuck$Coast" "love" "I" ∈ WA := zin 192 (by decide +kernel) (by decide +kernel)
theorem fp_X0_15_0 : zFp RX0 15 0 5 .int := ⟨RX0, TX0, 12, "BorrowedLuck$Coast", tyX0, rfl, by decide, uw_X0, Or.inl rfl, Or.inl wi_192, tyX0_ok, nmX0, rfl, by decide +kernel⟩
theorem dX0_init_15 : decode cX0_init 15 = .ok (.aload_n 0, 1) := by decide +kernel
theorem dX0_init_16 : decode cX0_init 16 = .ok (.iconst 1, 1) := by decide +kernel
theorem dX0_init_17 : decode cX0_init 17 = .ok (.putfield 18, 3) := by decide +kernel
theorem wi_196 : Cond.fieldLink RX0 18 "BorrowedLuck$Coast" "randomness" "I" ∈ WA := zin 196 (by decide +kernel) (by decide +kernel)
theorem fp_X0_18_0 : zFp RX0 18 0 6 .int := ⟨RX0, TX0, 12, "BorrowedLuck$Coast", tyX0, rfl, by decide, uw_X0, Or.inl rfl, Or.inl wi_196, tyX0_ok, nmX0, rfl, by decide +kernel⟩
theorem dX0_init_20 : decode cX0_init 20 = .ok (.aload_n 0, 1) := by decide +kernel
theorem dX0_init_21 : decode cX0_init 21 = .ok (.bipush 56, 2) := by decide +kernel
theorem dX0_init_23 : decode cX0_init 23 = .ok (.newarray .int, 2) := by decide +kernel
theorem dX0_init_25 : decode cX0_init 25 = .ok (.putfield 21, 3) := by decide +kernel
theorem fp_X0_21_0 : zFf RX0 21 0 9 (.array .int) := ⟨RX0, TX0, 12, "BorrowedLuck$Coast", tyX0, rfl, by decide, uw_X0, Or.inl rfl, Or.inl wi_201, tyX0_ok, nmX0, rfl, rfl, by decide +kernel⟩
theorem dX0_init_28 : decode cX0_init 28 = .ok (.aload_n 0, 1) := by decide +kernel
theorem dX0_init_29 : decode cX0_init 29 = .ok (.bipush 72, 2) := by decide +kernel
theorem dX0_init_31 : decode cX0_init 31 = .ok (.newarray .int, 2) := by decide +kernel
theorem dX0_init_33 : decode cX0_init 33 = .ok (.putfield 25, 3) := by decide +kernel
theorem wi_202 : Cond.fieldLink RX0 25 "BorrowedLuck$Coast" "itses" "[I" ∈ WA := zin 202 (by decide +kernel) (by decide +kernel)
theorem fp_X0_25_0 : zFf RX0 25 0 10 (.array .int) := ⟨RX0, TX0, 12, "BorrowedLuck$Coast", tyX0, rfl, by decide, uw_X0, Or.inl rfl, Or.inl wi_202, tyX0_ok, nmX0, rfl, rfl, by decide +kernel⟩
theorem dX0_init_36 : decode cX0_init 36 = .ok (.aload_n 0, 1) := by decide +kernel
theorem dX0_init_37 : decode cX0_init 37 = .ok (.sipush 240, 3) := by decide +kernel
theorem dX0_init_40 : decode cX0_init 40 = .ok (.newarray .int, 2) := by decide +kernel
theorem dX0_init_42 : decode cX0_init 42 = .ok (.putfield 28, 3) := by decide +kernel
theorem wi_203 : Cond.fieldLink RX0 28 "BorrowedLuck$Coast" "logbook" "[I" ∈ WA := zin 203 (by decide +kernel) (by decide +kernel)
theorem fp_X0_28_0 : zFf RX0 28 0 11 (.array .int) := ⟨RX0, TX0, 12, "BorrowedLuck$Coast", tyX0, rfl, by decide, uw_X0, Or.inl rfl, Or.inl wi_203, tyX0_ok, nmX0, rfl, rfl, by decide +kernel⟩
theorem dX0_init_45 : decode cX0_init 45 = .ok (.return_, 1) := by decide +kernel
abbrev mX2_init : Ym := (yX2_init, cX2_init, 1, none)
theorem dX2_init_0 : decode cX2_init 0 = .ok (.aload_n 0, 1) := by decide +kernel
theorem dX2_init_1 : decode cX2_init 1 = .ok (.invokespecial 3, 3) := by decide +kernel
theorem wi_240 : Cond.methodLink RX2 3 Lib.objectInit ∈ WA := zin 240 (by decide +kernel) (by decide +kernel)
theorem ob_X2_3 : zOb RX2 3 := ⟨wi_240, wi_132, wi_133⟩
theorem dX2_init_4 : decode cX2_init 4 = .ok (.aload_n 0, 1) := by decide +kernel
theorem dX2_init_5 : decode cX2_init 5 = .ok (.iconst (-1), 1) := by decide +kernel
theorem dX2_init_6 : decode cX2_init 6 = .ok (.putfield 9, 3) := by decide +kernel
theorem uw_X2 : ∀ w ∈ u_ws RX2 TX2 8, w ∈ WA := by decide +kernel
theorem wi_241 : Cond.fieldLink RX2 9 "BorrowedLuck$Law" "lines" "I" ∈ WA := zin 241 (by decide +kernel) (by decide +kernel)
theorem fp_X2_9_2 : zFp RX2 9 2 0 .int := ⟨RX2, TX2, 8, "BorrowedLuck$Law", tyX2, rfl, by decide, uw_X2, Or.inl rfl, Or.inl wi_241, tyX2_ok, nmX2, rfl, by decide +kernel⟩
theorem dX2_init_9 : decode cX2_init 9 = .ok (.aload_n 0, 1) := by decide +kernel
theorem dX2_init_10 : decode cX2_init 10 = .ok (.bipush 12, 2) := by decide +kernel
theorem dX2_init_12 : decode cX2_init 12 = .ok (.newarray .int, 2) := by decide +kernel
theorem dX2_init_14 : decode cX2_init 14 = .ok (.putfield 15, 3) := by decide +kernel
theorem wi_244 : Cond.fieldLink RX2 15 "BorrowedLuck$Law" "kinds" "[I" ∈ WA := zin 244 (by decide +kernel) (by decide +kernel)
theorem fp_X2_15_2 : zFf RX2 15 2 2 (.array .int) := ⟨RX2, TX2, 8, "BorrowedLuck$Law", tyX2, rfl, by decide, uw_X2, Or.inl rfl, Or.inl wi_244, tyX2_ok, nmX2, rfl, rfl, by decide +kernel⟩
theorem dX2_init_17 : decode cX2_init 17 = .ok (.aload_n 0, 1) := by decide +kernel
theorem dX2_init_18 : decode cX2_init 18 = .ok (.bipush 12, 2) := by decide +kernel
theorem dX2_init_20 : decode cX2_init 20 = .ok (.newarray .int, 2) := by decide +kernel
theorem dX2_init_22 : decode cX2_init 22 = .ok (.putfield 19, 3) := by decide +kernel
theorem wi_245 : Cond.fieldLink RX2 19 "BorrowedLuck$Law" "numbers" "[I" ∈ WA := zin 245 (by decide +kernel) (by decide +kernel)
theorem fp_X2_19_2 : zFf RX2 19 2 3 (.array .int) := ⟨RX2, TX2, 8, "BorrowedLuck$Law", tyX2, rfl, by decide, uw_X2, Or.inl rfl, Or.inl wi_245, tyX2_ok, nmX2, rfl, rfl, by decide +kernel⟩
theorem dX2_init_25 : decode cX2_init 25 = .ok (.aload_n 0, 1) := by decide +kernel
theorem dX2_init_26 : decode cX2_init 26 = .ok (.bipush 12, 2) := by decide +kernel
theorem dX2_init_28 : decode cX2_init 28 = .ok (.newarray .int, 2) := by decide +kernel
theorem dX2_init_30 : decode cX2_init 30 = .ok (.putfield 22, 3) := by decide +kernel
theorem wi_246 : Cond.fieldLink RX2 22 "BorrowedLuck$Law" "ends" "[I" ∈ WA := zin 246 (by decide +kernel) (by decide +kernel)
theorem fp_X2_22_2 : zFf RX2 22 2 4 (.array .int) := ⟨RX2, TX2, 8, "BorrowedLuck$Law", tyX2, rfl, by decide, uw_X2, Or.inl rfl, Or.inl wi_246, tyX2_ok, nmX2, rfl, rfl, by decide +kernel⟩
theorem dX2_init_33 : decode cX2_init 33 = .ok (.aload_n 0, 1) := by decide +kernel
theorem dX2_init_34 : decode cX2_init 34 = .ok (.sipush 400, 3) := by decide +kernel
theorem dX2_init_37 : decode cX2_init 37 = .ok (.newarray .int, 2) := by decide +kernel
theorem dX2_init_39 : decode cX2_init 39 = .ok (.putfield 25, 3) := by decide +kernel
theorem wi_247 : Cond.fieldLink RX2 25 "BorrowedLuck$Law" "code" "[I" ∈ WA := zin 247 (by decide +kernel) (by decide +kernel)
theorem fp_X2_25_2 : zFf RX2 25 2 5 (.array .int) := ⟨RX2, TX2, 8, "BorrowedLuck$Law", tyX2, rfl, by decide, uw_X2, Or.inl rfl, Or.inl wi_247, tyX2_ok, nmX2, rfl, rfl, by decide +kernel⟩
theorem dX2_init_42 : decode cX2_init 42 = .ok (.aload_n 0, 1) := by decide +kernel
theorem dX2_init_43 : decode cX2_init 43 = .ok (.bipush 10, 2) := by decide +kernel
theorem dX2_init_45 : decode cX2_init 45 = .ok (.newarray .int, 2) := by decide +kernel
theorem dX2_init_47 : decode cX2_init 47 = .ok (.putfield 28, 3) := by decide +kernel
theorem wi_248 : Cond.fieldLink RX2 28 "BorrowedLuck$Law" "facts" "[I" ∈ WA := zin 248 (by decide +kernel) (by decide +kernel)
theorem fp_X2_28_2 : zFf RX2 28 2 6 (.array .int) := ⟨RX2, TX2, 8, "BorrowedLuck$Law", tyX2, rfl, by decide, uw_X2, Or.inl rfl, Or.inl wi_248, tyX2_ok, nmX2, rfl, rfl, by decide +kernel⟩
theorem dX2_init_50 : decode cX2_init 50 = .ok (.aload_n 0, 1) := by decide +kernel
theorem dX2_init_51 : decode cX2_init 51 = .ok (.bipush 32, 2) := by decide +kernel
theorem dX2_init_53 : decode cX2_init 53 = .ok (.newarray .int, 2) := by decide +kernel
theorem dX2_init_55 : decode cX2_init 55 = .ok (.putfield 31, 3) := by decide +kernel
theorem wi_249 : Cond.fieldLink RX2 31 "BorrowedLuck$Law" "stack" "[I" ∈ WA := zin 249 (by decide +kernel) (by decide +kernel)
theorem fp_X2_31_2 : zFf RX2 31 2 7 (.array .int) := ⟨RX2, TX2, 8, "BorrowedLuck$Law", tyX2, rfl, by decide, uw_X2, Or.inl rfl, Or.inl wi_249, tyX2_ok, nmX2, rfl, rfl, by decide +kernel⟩
theorem dX2_init_58 : decode cX2_init 58 = .ok (.return_, 1) := by decide +kernel
abbrev mX6_init : Ym := (yX6_init, cX6_init, 1, none)
theorem dX6_init_0 : decode cX6_init 0 = .ok (.aload_n 0, 1) := by decide +kernel
theorem dX6_init_1 : decode cX6_init 1 = .ok (.invokespecial 3, 3) := by decide +kernel
theorem wi_234 : Cond.methodLink RX6 3 Lib.objectInit ∈ WA := zin 234 (by decide +kernel) (by decide +kernel)
theorem ob_X6_3 : zOb RX6 3 := ⟨wi_234, wi_132, wi_133⟩
theorem dX6_init_4 : decode cX6_init 4 = .ok (.aload_n 0, 1) := by decide +kernel
theorem dX6_init_5 : decode cX6_init 5 = .ok (.new 9, 3) := by decide +kernel
theorem wi_235 : Cond.classLink RX6 9 RX2 ∈ WA := zin 235 (by decide +kernel) (by decide +kernel)
theorem wi_236 : Cond.instantiable RX2 8 ∈ WA := zin 236 (by decide +kernel) (by decide +kernel)
theorem wi_104 : Cond.initialized RX2 ∈ WA := zin 104 (by decide +kernel) (by decide +kernel)
theorem nw_X6_9 : zNw RX6 9 2 8 [none, none, some none, some none, some none, some none, some none, some none] := ⟨RX2, TX2, tyX2, rfl, uw_X2, tyX2_ok, wi_235, wi_236, wi_104, rfl, by decide +kernel⟩
theorem dX6_init_8 : decode cX6_init 8 = .ok (.dup, 1) := by decide +kernel
theorem dX6_init_9 : decode cX6_init 9 = .ok (.invokespecial 11, 3) := by decide +kernel
theorem wi_239 : Cond.code yX2_init cX2_init 1 (none) ∈ WA := zin 239 (by decide +kernel) (by decide +kernel)
theorem wi_238 : Cond.instanceMethod yX2_init ∈ WA := zin 238 (by decide +kernel) (by decide +kernel)
theorem mi_X6_11 : zMn RX6 11 mX2_init 0 := ⟨⟨"BorrowedLuck", by decide +kernel⟩, wi_104, wi_239, by decide, by decide +kernel, rfl, wi_238⟩
theorem dX6_init_12 : decode cX6_init 12 = .ok (.putfield 12, 3) := by decide +kernel
theorem uw_X6 : ∀ w ∈ u_ws RX6 TX6 1, w ∈ WA := by decide +kernel
theorem wi_267 : Cond.fieldLink RX6 12 "BorrowedLuck$Rites" "rule" "LBorrowedLuck$Law;" ∈ WA := zin 267 (by decide +kernel) (by decide +kernel)
theorem fp_X6_12_5 : zFf RX6 12 5 0 (.object "BorrowedLuck$Law") := ⟨RX6, TX6, 1, "BorrowedLuck$Rites", tyX6, rfl, by decide, uw_X6, Or.inl rfl, Or.inl wi_267, tyX6_ok, nmX6, rfl, rfl, by decide +kernel⟩
theorem dX6_init_15 : decode cX6_init 15 = .ok (.return_, 1) := by decide +kernel
theorem zOKs {Ga : List Shp} {n k j : Nat} (a : Nat) (h : (Ga.set a (ia 0)).all (zokb n) = true) (hg : Ga[a]? = some (.inr (.object "BorrowedLuck$Coast", k, fM j))) (hj : 42 + 4 * j < n) : zOK Ga n := by
  intro sh hs
  obtain ⟨i, hi, rfl⟩ := List.getElem_of_mem hs
  by_cases hia : i = a
  · subst hia
    rw [List.getElem?_eq_getElem hi] at hg
    rw [Option.some.inj hg]
    exact zok_fM hj
  · refine zokb_ok (List.all_eq_true.mp h _ (List.mem_of_getElem? (i := i) ?_))
    rw [List.getElem?_set_ne (fun q => hia q.symm), List.getElem?_eq_getElem hi]
theorem fM_0 : (fun _ => none) = fM 0 := by funext j; simp [fM]
theorem fM_up (j : Nat) : va_up (fM j) j (some (46 + 4 * j)) = fM (j + 1) := by
  funext k
  simp only [va_up, fM]
  by_cases h : k = j
  · subst h; simp
  · by_cases h2 : k < j
    · simp [h, h2, show k < j + 1 by omega]
    · simp [h, h2, show ¬ k < j + 1 by omega]
section Init
variable (G : Gx) (d : Nat) (I : Hi)
theorem cn_Tape (h : I 2 = fun _ => 0) : Cn G (wB 0 0 ++ [.inl (7, [some none, none, none, none, none, none, none])]) mX8_init (d + 1) 70 [.ref 1] I (wB 0 2) I := by
  refine Cn.mkY [some (.ref 1)] rfl (fun ad => ?_)
  refine Rn.aload_n dX8_init_0 rfl rfl ?_
  refine Rn.objI dX8_init_1 ob_X8_3 (Nat.le_of_ble_eq_true rfl) ?_
  refine Rn.aload_n dX8_init_4 rfl rfl ?_
  refine Rn.sipush (v := (nI 400)) dX8_init_5 rfl ?_
  refine Rn.newaY (n := 2) (k := 67) (len := 400) dX8_init_8 rfl (by decide) wi_167 rfl (by decide) rfl (zOKb (by decide +kernel)) h (by decide +kernel) (by decide) (by decide) (by decide) (fun ad => ?_)
  refine Rn.putR dX8_init_10 fp_X8_9_7 rfl (by first | rfl | exact gC0 (by assumption) | exact gL0 (by assumption)) rfl (fun _ => ⟨rfl, rfl⟩) ?_
  refine Rn.wld (wB 0 2) rfl ?_
  exact Rn.nretY dX8_init_13 rfl rfl rfl
def jC (I : Hi) (c : Nat) : Hi := zup (zup (zup I c 4 (nI 5)) c 5 (nI 20)) c 6 (nI 1)
theorem cn_Coast_3 (h1 : I 4 = fun _ => 0) (h2 : I 5 = fun _ => 0) (h3 : I 6 = fun _ => 0) : Cn G (wB 1 2 ++ [shC0]) mX0_init (d + 1) 70 [.ref 3] I (wB 1 6) (jC I 3) := by
  refine Cn.mkY [some (.ref 3)] rfl (fun ad => ?_)
  refine Rn.aload_n dX0_init_0 rfl rfl ?_
  refine Rn.objI dX0_init_1 ob_X0_3 (Nat.le_of_ble_eq_true rfl) ?_
  refine Rn.aload_n dX0_init_4 rfl rfl ?_
  refine Rn.iconst (v := (nI 5)) dX0_init_5 rfl ?_
  refine Rn.putI dX0_init_6 fp_X0_9_0 (by first | rfl | exact gC0 (by assumption) | exact gL0 (by assumption)) rfl ?_
  refine Rn.aload_n dX0_init_9 rfl rfl ?_
  refine Rn.bipush (v := (nI 20)) dX0_init_10 rfl ?_
  refine Rn.putI dX0_init_12 fp_X0_15_0 (by first | rfl | exact gC0 (by assumption) | exact gL0 (by assumption)) rfl ?_
  refine Rn.aload_n dX0_init_15 rfl rfl ?_
  refine Rn.iconst (v := (nI 1)) dX0_init_16 rfl ?_
  refine Rn.putI dX0_init_17 fp_X0_18_0 (by first | rfl | exact gC0 (by assumption) | exact gL0 (by assumption)) rfl ?_
  refine Rn.aload_n dX0_init_20 rfl rfl ?_
  refine Rn.bipush (v := (nI 56)) dX0_init_21 rfl ?_
  refine Rn.newaY (n := 4) (k := 10) (len := 56) dX0_init_23 rfl (by decide) wi_167 rfl (by decide) rfl (zOKb (by decide +kernel)) h1 (by decide +kernel) (by decide) (by decide) (by decide) (fun ad => ?_)
  refine Rn.putR dX0_init_25 fp_X0_21_0 rfl (by first | rfl | exact gC0 (by assumption) | exact gL0 (by assumption)) rfl (fun _ => ⟨rfl, rfl⟩) ?_
  refine Rn.aload_n dX0_init_28 rfl rfl ?_
  refine Rn.bipush (v := (nI 72)) dX0_init_29 rfl ?_
  refine Rn.newaY (n := 5) (k := 12) (len := 72) dX0_init_31 rfl (by decide) wi_167 rfl (by decide) rfl (zOKb (by decide +kernel)) h2 (by decide +kernel) (by decide) (by decide) (by decide) (fun ad => ?_)
  refine Rn.putR dX0_init_33 fp_X0_25_0 rfl (by first | rfl | exact gC0 (by assumption) | exact gL0 (by assumption)) rfl (fun _ => ⟨rfl, rfl⟩) ?_
  refine Rn.aload_n dX0_init_36 rfl rfl ?_
  refine Rn.sipush (v := (nI 240)) dX0_init_37 rfl ?_
  refine Rn.newaY (n := 6) (k := 40) (len := 240) dX0_init_40 rfl (by decide) wi_167 rfl (by decide) rfl (zOKb (by decide +kernel)) h3 (by decide +kernel) (by decide) (by decide) (by decide) (fun ad => ?_)
  refine Rn.putR dX0_init_42 fp_X0_28_0 rfl (by first | rfl | exact gC0 (by assumption) | exact gL0 (by assumption)) rfl (fun _ => ⟨rfl, rfl⟩) ?_
  refine Rn.wld (wB 1 6) rfl ?_
  exact Rn.nretY dX0_init_45 rfl rfl rfl
theorem cn_Coast_7 (h1 : I 8 = fun _ => 0) (h2 : I 9 = fun _ => 0) (h3 : I 10 = fun _ => 0) : Cn G (wB 2 6 ++ [shC0]) mX0_init (d + 1) 70 [.ref 7] I (wB 2 10) (jC I 7) := by
  refine Cn.mkY [some (.ref 7)] rfl (fun ad => ?_)
  refine Rn.aload_n dX0_init_0 rfl rfl ?_
  refine Rn.objI dX0_init_1 ob_X0_3 (Nat.le_of_ble_eq_true rfl) ?_
  refine Rn.aload_n dX0_init_4 rfl rfl ?_
  refine Rn.iconst (v := (nI 5)) dX0_init_5 rfl ?_
  refine Rn.putI dX0_init_6 fp_X0_9_0 (by first | rfl | exact gC0 (by assumption) | exact gL0 (by assumption)) rfl ?_
  refine Rn.aload_n dX0_init_9 rfl rfl ?_
  refine Rn.bipush (v := (nI 20)) dX0_init_10 rfl ?_
  refine Rn.putI dX0_init_12 fp_X0_15_0 (by first | rfl | exact gC0 (by assumption) | exact gL0 (by assumption)) rfl ?_
  refine Rn.aload_n dX0_init_15 rfl rfl ?_
  refine Rn.iconst (v := (nI 1)) dX0_init_16 rfl ?_
  refine Rn.putI dX0_init_17 fp_X0_18_0 (by first | rfl | exact gC0 (by assumption) | exact gL0 (by assumption)) rfl ?_
  refine Rn.aload_n dX0_init_20 rfl rfl ?_
  refine Rn.bipush (v := (nI 56)) dX0_init_21 rfl ?_
  refine Rn.newaY (n := 8) (k := 10) (len := 56) dX0_init_23 rfl (by decide) wi_167 rfl (by decide) rfl (zOKb (by decide +kernel)) h1 (by decide +kernel) (by decide) (by decide) (by decide) (fun ad => ?_)
  refine Rn.putR dX0_init_25 fp_X0_21_0 rfl (by first | rfl | exact gC0 (by assumption) | exact gL0 (by assumption)) rfl (fun _ => ⟨rfl, rfl⟩) ?_
  refine Rn.aload_n dX0_init_28 rfl rfl ?_
  refine Rn.bipush (v := (nI 72)) dX0_init_29 rfl ?_
  refine Rn.newaY (n := 9) (k := 12) (len := 72) dX0_init_31 rfl (by decide) wi_167 rfl (by decide) rfl (zOKb (by decide +kernel)) h2 (by decide +kernel) (by decide) (by decide) (by decide) (fun ad => ?_)
  refine Rn.putR dX0_init_33 fp_X0_25_0 rfl (by first | rfl | exact gC0 (by assumption) | exact gL0 (by assumption)) rfl (fun _ => ⟨rfl, rfl⟩) ?_
  refine Rn.aload_n dX0_init_36 rfl rfl ?_
  refine Rn.sipush (v := (nI 240)) dX0_init_37 rfl ?_
  refine Rn.newaY (n := 10) (k := 40) (len := 240) dX0_init_40 rfl (by decide) wi_167 rfl (by decide) rfl (zOKb (by decide +kernel)) h3 (by decide +kernel) (by decide) (by decide) (by decide) (fun ad => ?_)
  refine Rn.putR dX0_init_42 fp_X0_28_0 rfl (by first | rfl | exact gC0 (by assumption) | exact gL0 (by assumption)) rfl (fun _ => ⟨rfl, rfl⟩) ?_
  refine Rn.wld (wB 2 10) rfl ?_
  exact Rn.nretY dX0_init_45 rfl rfl rfl
theorem cn_Coast_11 (h1 : I 12 = fun _ => 0) (h2 : I 13 = fun _ => 0) (h3 : I 14 = fun _ => 0) : Cn G (wB 3 10 ++ [shC0]) mX0_init (d + 1) 70 [.ref 11] I (wB 3 14) (jC I 11) := by
  refine Cn.mkY [some (.ref 11)] rfl (fun ad => ?_)
  refine Rn.aload_n dX0_init_0 rfl rfl ?_
  refine Rn.objI dX0_init_1 ob_X0_3 (Nat.le_of_ble_eq_true rfl) ?_
  refine Rn.aload_n dX0_init_4 rfl rfl ?_
  refine Rn.iconst (v := (nI 5)) dX0_init_5 rfl ?_
  refine Rn.putI dX0_init_6 fp_X0_9_0 (by first | rfl | exact gC0 (by assumption) | exact gL0 (by assumption)) rfl ?_
  refine Rn.aload_n dX0_init_9 rfl rfl ?_
  refine Rn.bipush (v := (nI 20)) dX0_init_10 rfl ?_
  refine Rn.putI dX0_init_12 fp_X0_15_0 (by first | rfl | exact gC0 (by assumption) | exact gL0 (by assumption)) rfl ?_
  refine Rn.aload_n dX0_init_15 rfl rfl ?_
  refine Rn.iconst (v := (nI 1)) dX0_init_16 rfl ?_
  refine Rn.putI dX0_init_17 fp_X0_18_0 (by first | rfl | exact gC0 (by assumption) | exact gL0 (by assumption)) rfl ?_
  refine Rn.aload_n dX0_init_20 rfl rfl ?_
  refine Rn.bipush (v := (nI 56)) dX0_init_21 rfl ?_
  refine Rn.newaY (n := 12) (k := 10) (len := 56) dX0_init_23 rfl (by decide) wi_167 rfl (by decide) rfl (zOKb (by decide +kernel)) h1 (by decide +kernel) (by decide) (by decide) (by decide) (fun ad => ?_)
  refine Rn.putR dX0_init_25 fp_X0_21_0 rfl (by first | rfl | exact gC0 (by assumption) | exact gL0 (by assumption)) rfl (fun _ => ⟨rfl, rfl⟩) ?_
  refine Rn.aload_n dX0_init_28 rfl rfl ?_
  refine Rn.bipush (v := (nI 72)) dX0_init_29 rfl ?_
  refine Rn.newaY (n := 13) (k := 12) (len := 72) dX0_init_31 rfl (by decide) wi_167 rfl (by decide) rfl (zOKb (by decide +kernel)) h2 (by decide +kernel) (by decide) (by decide) (by decide) (fun ad => ?_)
  refine Rn.putR dX0_init_33 fp_X0_25_0 rfl (by first | rfl | exact gC0 (by assumption) | exact gL0 (by assumption)) rfl (fun _ => ⟨rfl, rfl⟩) ?_
  refine Rn.aload_n dX0_init_36 rfl rfl ?_
  refine Rn.sipush (v := (nI 240)) dX0_init_37 rfl ?_
  refine Rn.newaY (n := 14) (k := 40) (len := 240) dX0_init_40 rfl (by decide) wi_167 rfl (by decide) rfl (zOKb (by decide +kernel)) h3 (by decide +kernel) (by decide) (by decide) (by decide) (fun ad => ?_)
  refine Rn.putR dX0_init_42 fp_X0_28_0 rfl (by first | rfl | exact gC0 (by assumption) | exact gL0 (by assumption)) rfl (fun _ => ⟨rfl, rfl⟩) ?_
  refine Rn.wld (wB 3 14) rfl ?_
  exact Rn.nretY dX0_init_45 rfl rfl rfl
def wN_0 : List Shp := wB 10 44 ++ [.inr (.object "BorrowedLuck$Coast", 12, fM 0)] ++ (GAM.drop 46).take 4
theorem cn_CoastM_0 (h1 : I 47 = fun _ => 0) (h2 : I 48 = fun _ => 0) (h3 : I 49 = fun _ => 0) : Cn G (wM 0 ++ [shC0]) mX0_init (d + 1) 70 [.ref 46] I wN_0 (jC I 46) := by
  refine Cn.mkY [some (.ref 46)] rfl (fun ad => ?_)
  refine Rn.aload_n dX0_init_0 rfl rfl ?_
  refine Rn.objI dX0_init_1 ob_X0_3 (Nat.le_of_ble_eq_true rfl) ?_
  refine Rn.aload_n dX0_init_4 rfl rfl ?_
  refine Rn.iconst (v := (nI 5)) dX0_init_5 rfl ?_
  refine Rn.putI dX0_init_6 fp_X0_9_0 (by first | rfl | exact gC0 (by assumption) | exact gL0 (by assumption)) rfl ?_
  refine Rn.aload_n dX0_init_9 rfl rfl ?_
  refine Rn.bipush (v := (nI 20)) dX0_init_10 rfl ?_
  refine Rn.putI dX0_init_12 fp_X0_15_0 (by first | rfl | exact gC0 (by assumption) | exact gL0 (by assumption)) rfl ?_
  refine Rn.aload_n dX0_init_15 rfl rfl ?_
  refine Rn.iconst (v := (nI 1)) dX0_init_16 rfl ?_
  refine Rn.putI dX0_init_17 fp_X0_18_0 (by first | rfl | exact gC0 (by assumption) | exact gL0 (by assumption)) rfl ?_
  refine Rn.aload_n dX0_init_20 rfl rfl ?_
  refine Rn.bipush (v := (nI 56)) dX0_init_21 rfl ?_
  refine Rn.newaY (n := 47) (k := 10) (len := 56) dX0_init_23 rfl (by decide) wi_167 rfl (by decide) rfl (zOKs 45 (by decide +kernel) rfl (by decide)) h1 (by decide +kernel) (by decide) (by decide) (by decide) (fun ad => ?_)
  refine Rn.putR dX0_init_25 fp_X0_21_0 rfl (by first | rfl | exact gC0 (by assumption) | exact gL0 (by assumption)) rfl (fun _ => ⟨rfl, rfl⟩) ?_
  refine Rn.aload_n dX0_init_28 rfl rfl ?_
  refine Rn.bipush (v := (nI 72)) dX0_init_29 rfl ?_
  refine Rn.newaY (n := 48) (k := 12) (len := 72) dX0_init_31 rfl (by decide) wi_167 rfl (by decide) rfl (zOKs 45 (by decide +kernel) rfl (by decide)) h2 (by decide +kernel) (by decide) (by decide) (by decide) (fun ad => ?_)
  refine Rn.putR dX0_init_33 fp_X0_25_0 rfl (by first | rfl | exact gC0 (by assumption) | exact gL0 (by assumption)) rfl (fun _ => ⟨rfl, rfl⟩) ?_
  refine Rn.aload_n dX0_init_36 rfl rfl ?_
  refine Rn.sipush (v := (nI 240)) dX0_init_37 rfl ?_
  refine Rn.newaY (n := 49) (k := 40) (len := 240) dX0_init_40 rfl (by decide) wi_167 rfl (by decide) rfl (zOKs 45 (by decide +kernel) rfl (by decide)) h3 (by decide +kernel) (by decide) (by decide) (by decide) (fun ad => ?_)
  refine Rn.putR dX0_init_42 fp_X0_28_0 rfl (by first | rfl | exact gC0 (by assumption) | exact gL0 (by assumption)) rfl (fun _ => ⟨rfl, rfl⟩) ?_
  refine Rn.wld wN_0 rfl ?_
  exact Rn.nretY dX0_init_45 rfl rfl rfl
def wN_1 : List Shp := wB 10 44 ++ [.inr (.object "BorrowedLuck$Coast", 12, fM 1)] ++ (GAM.drop 46).take 8
theorem cn_CoastM_1 (h1 : I 51 = fun _ => 0) (h2 : I 52 = fun _ => 0) (h3 : I 53 = fun _ => 0) : Cn G (wM 1 ++ [shC0]) mX0_init (d + 1) 70 [.ref 50] I wN_1 (jC I 50) := by
  refine Cn.mkY [some (.ref 50)] rfl (fun ad => ?_)
  refine Rn.aload_n dX0_init_0 rfl rfl ?_
  refine Rn.objI dX0_init_1 ob_X0_3 (Nat.le_of_ble_eq_true rfl) ?_
  refine Rn.aload_n dX0_init_4 rfl rfl ?_
  refine Rn.iconst (v := (nI 5)) dX0_init_5 rfl ?_
  refine Rn.putI dX0_init_6 fp_X0_9_0 (by first | rfl | exact gC0 (by assumption) | exact gL0 (by assumption)) rfl ?_
  refine Rn.aload_n dX0_init_9 rfl rfl ?_
  refine Rn.bipush (v := (nI 20)) dX0_init_10 rfl ?_
  refine Rn.putI dX0_init_12 fp_X0_15_0 (by first | rfl | exact gC0 (by assumption) | exact gL0 (by assumption)) rfl ?_
  refine Rn.aload_n dX0_init_15 rfl rfl ?_
  refine Rn.iconst (v := (nI 1)) dX0_init_16 rfl ?_
  refine Rn.putI dX0_init_17 fp_X0_18_0 (by first | rfl | exact gC0 (by assumption) | exact gL0 (by assumption)) rfl ?_
  refine Rn.aload_n dX0_init_20 rfl rfl ?_
  refine Rn.bipush (v := (nI 56)) dX0_init_21 rfl ?_
  refine Rn.newaY (n := 51) (k := 10) (len := 56) dX0_init_23 rfl (by decide) wi_167 rfl (by decide) rfl (zOKs 45 (by decide +kernel) rfl (by decide)) h1 (by decide +kernel) (by decide) (by decide) (by decide) (fun ad => ?_)
  refine Rn.putR dX0_init_25 fp_X0_21_0 rfl (by first | rfl | exact gC0 (by assumption) | exact gL0 (by assumption)) rfl (fun _ => ⟨rfl, rfl⟩) ?_
  refine Rn.aload_n dX0_init_28 rfl rfl ?_
  refine Rn.bipush (v := (nI 72)) dX0_init_29 rfl ?_
  refine Rn.newaY (n := 52) (k := 12) (len := 72) dX0_init_31 rfl (by decide) wi_167 rfl (by decide) rfl (zOKs 45 (by decide +kernel) rfl (by decide)) h2 (by decide +kernel) (by decide) (by decide) (by decide) (fun ad => ?_)
  refine Rn.putR dX0_init_33 fp_X0_25_0 rfl (by first | rfl | exact gC0 (by assumption) | exact gL0 (by assumption)) rfl (fun _ => ⟨rfl, rfl⟩) ?_
  refine Rn.aload_n dX0_init_36 rfl rfl ?_
  refine Rn.sipush (v := (nI 240)) dX0_init_37 rfl ?_
  refine Rn.newaY (n := 53) (k := 40) (len := 240) dX0_init_40 rfl (by decide) wi_167 rfl (by decide) rfl (zOKs 45 (by decide +kernel) rfl (by decide)) h3 (by decide +kernel) (by decide) (by decide) (by decide) (fun ad => ?_)
  refine Rn.putR dX0_init_42 fp_X0_28_0 rfl (by first | rfl | exact gC0 (by assumption) | exact gL0 (by assumption)) rfl (fun _ => ⟨rfl, rfl⟩) ?_
  refine Rn.wld wN_1 rfl ?_
  exact Rn.nretY dX0_init_45 rfl rfl rfl
def wN_2 : List Shp := wB 10 44 ++ [.inr (.object "BorrowedLuck$Coast", 12, fM 2)] ++ (GAM.drop 46).take 12
theorem cn_CoastM_2 (h1 : I 55 = fun _ => 0) (h2 : I 56 = fun _ => 0) (h3 : I 57 = fun _ => 0) : Cn G (wM 2 ++ [shC0]) mX0_init (d + 1) 70 [.ref 54] I wN_2 (jC I 54) := by
  refine Cn.mkY [some (.ref 54)] rfl (fun ad => ?_)
  refine Rn.aload_n dX0_init_0 rfl rfl ?_
  refine Rn.objI dX0_init_1 ob_X0_3 (Nat.le_of_ble_eq_true rfl) ?_
  refine Rn.aload_n dX0_init_4 rfl rfl ?_
  refine Rn.iconst (v := (nI 5)) dX0_init_5 rfl ?_
  refine Rn.putI dX0_init_6 fp_X0_9_0 (by first | rfl | exact gC0 (by assumption) | exact gL0 (by assumption)) rfl ?_
  refine Rn.aload_n dX0_init_9 rfl rfl ?_
  refine Rn.bipush (v := (nI 20)) dX0_init_10 rfl ?_
  refine Rn.putI dX0_init_12 fp_X0_15_0 (by first | rfl | exact gC0 (by assumption) | exact gL0 (by assumption)) rfl ?_
  refine Rn.aload_n dX0_init_15 rfl rfl ?_
  refine Rn.iconst (v := (nI 1)) dX0_init_16 rfl ?_
  refine Rn.putI dX0_init_17 fp_X0_18_0 (by first | rfl | exact gC0 (by assumption) | exact gL0 (by assumption)) rfl ?_
  refine Rn.aload_n dX0_init_20 rfl rfl ?_
  refine Rn.bipush (v := (nI 56)) dX0_init_21 rfl ?_
  refine Rn.newaY (n := 55) (k := 10) (len := 56) dX0_init_23 rfl (by decide) wi_167 rfl (by decide) rfl (zOKs 45 (by decide +kernel) rfl (by decide)) h1 (by decide +kernel) (by decide) (by decide) (by decide) (fun ad => ?_)
  refine Rn.putR dX0_init_25 fp_X0_21_0 rfl (by first | rfl | exact gC0 (by assumption) | exact gL0 (by assumption)) rfl (fun _ => ⟨rfl, rfl⟩) ?_
  refine Rn.aload_n dX0_init_28 rfl rfl ?_
  refine Rn.bipush (v := (nI 72)) dX0_init_29 rfl ?_
  refine Rn.newaY (n := 56) (k := 12) (len := 72) dX0_init_31 rfl (by decide) wi_167 rfl (by decide) rfl (zOKs 45 (by decide +kernel) rfl (by decide)) h2 (by decide +kernel) (by decide) (by decide) (by decide) (fun ad => ?_)
  refine Rn.putR dX0_init_33 fp_X0_25_0 rfl (by first | rfl | exact gC0 (by assumption) | exact gL0 (by assumption)) rfl (fun _ => ⟨rfl, rfl⟩) ?_
  refine Rn.aload_n dX0_init_36 rfl rfl ?_
  refine Rn.sipush (v := (nI 240)) dX0_init_37 rfl ?_
  refine Rn.newaY (n := 57) (k := 40) (len := 240) dX0_init_40 rfl (by decide) wi_167 rfl (by decide) rfl (zOKs 45 (by decide +kernel) rfl (by decide)) h3 (by decide +kernel) (by decide) (by decide) (by decide) (fun ad => ?_)
  refine Rn.putR dX0_init_42 fp_X0_28_0 rfl (by first | rfl | exact gC0 (by assumption) | exact gL0 (by assumption)) rfl (fun _ => ⟨rfl, rfl⟩) ?_
  refine Rn.wld wN_2 rfl ?_
  exact Rn.nretY dX0_init_45 rfl rfl rfl
def wN_3 : List Shp := wB 10 44 ++ [.inr (.object "BorrowedLuck$Coast", 12, fM 3)] ++ (GAM.drop 46).take 16
theorem cn_CoastM_3 (h1 : I 59 = fun _ => 0) (h2 : I 60 = fun _ => 0) (h3 : I 61 = fun _ => 0) : Cn G (wM 3 ++ [shC0]) mX0_init (d + 1) 70 [.ref 58] I wN_3 (jC I 58) := by
  refine Cn.mkY [some (.ref 58)] rfl (fun ad => ?_)
  refine Rn.aload_n dX0_init_0 rfl rfl ?_
  refine Rn.objI dX0_init_1 ob_X0_3 (Nat.le_of_ble_eq_true rfl) ?_
  refine Rn.aload_n dX0_init_4 rfl rfl ?_
  refine Rn.iconst (v := (nI 5)) dX0_init_5 rfl ?_
  refine Rn.putI dX0_init_6 fp_X0_9_0 (by first | rfl | exact gC0 (by assumption) | exact gL0 (by assumption)) rfl ?_
  refine Rn.aload_n dX0_init_9 rfl rfl ?_
  refine Rn.bipush (v := (nI 20)) dX0_init_10 rfl ?_
  refine Rn.putI dX0_init_12 fp_X0_15_0 (by first | rfl | exact gC0 (by assumption) | exact gL0 (by assumption)) rfl ?_
  refine Rn.aload_n dX0_init_15 rfl rfl ?_
  refine Rn.iconst (v := (nI 1)) dX0_init_16 rfl ?_
  refine Rn.putI dX0_init_17 fp_X0_18_0 (by first | rfl | exact gC0 (by assumption) | exact gL0 (by assumption)) rfl ?_
  refine Rn.aload_n dX0_init_20 rfl rfl ?_
  refine Rn.bipush (v := (nI 56)) dX0_init_21 rfl ?_
  refine Rn.newaY (n := 59) (k := 10) (len := 56) dX0_init_23 rfl (by decide) wi_167 rfl (by decide) rfl (zOKs 45 (by decide +kernel) rfl (by decide)) h1 (by decide +kernel) (by decide) (by decide) (by decide) (fun ad => ?_)
  refine Rn.putR dX0_init_25 fp_X0_21_0 rfl (by first | rfl | exact gC0 (by assumption) | exact gL0 (by assumption)) rfl (fun _ => ⟨rfl, rfl⟩) ?_
  refine Rn.aload_n dX0_init_28 rfl rfl ?_
  refine Rn.bipush (v := (nI 72)) dX0_init_29 rfl ?_
  refine Rn.newaY (n := 60) (k := 12) (len := 72) dX0_init_31 rfl (by decide) wi_167 rfl (by decide) rfl (zOKs 45 (by decide +kernel) rfl (by decide)) h2 (by decide +kernel) (by decide) (by decide) (by decide) (fun ad => ?_)
  refine Rn.putR dX0_init_33 fp_X0_25_0 rfl (by first | rfl | exact gC0 (by assumption) | exact gL0 (by assumption)) rfl (fun _ => ⟨rfl, rfl⟩) ?_
  refine Rn.aload_n dX0_init_36 rfl rfl ?_
  refine Rn.sipush (v := (nI 240)) dX0_init_37 rfl ?_
  refine Rn.newaY (n := 61) (k := 40) (len := 240) dX0_init_40 rfl (by decide) wi_167 rfl (by decide) rfl (zOKs 45 (by decide +kernel) rfl (by decide)) h3 (by decide +kernel) (by decide) (by decide) (by decide) (fun ad => ?_)
  refine Rn.putR dX0_init_42 fp_X0_28_0 rfl (by first | rfl | exact gC0 (by assumption) | exact gL0 (by assumption)) rfl (fun _ => ⟨rfl, rfl⟩) ?_
  refine Rn.wld wN_3 rfl ?_
  exact Rn.nretY dX0_init_45 rfl rfl rfl
def wN_4 : List Shp := wB 10 44 ++ [.inr (.object "BorrowedLuck$Coast", 12, fM 4)] ++ (GAM.drop 46).take 20
theorem cn_CoastM_4 (h1 : I 63 = fun _ => 0) (h2 : I 64 = fun _ => 0) (h3 : I 65 = fun _ => 0) : Cn G (wM 4 ++ [shC0]) mX0_init (d + 1) 70 [.ref 62] I wN_4 (jC I 62) := by
  refine Cn.mkY [some (.ref 62)] rfl (fun ad => ?_)
  refine Rn.aload_n dX0_init_0 rfl rfl ?_
  refine Rn.objI dX0_init_1 ob_X0_3 (Nat.le_of_ble_eq_true rfl) ?_
  refine Rn.aload_n dX0_init_4 rfl rfl ?_
  refine Rn.iconst (v := (nI 5)) dX0_init_5 rfl ?_
  refine Rn.putI dX0_init_6 fp_X0_9_0 (by first | rfl | exact gC0 (by assumption) | exact gL0 (by assumption)) rfl ?_
  refine Rn.aload_n dX0_init_9 rfl rfl ?_
  refine Rn.bipush (v := (nI 20)) dX0_init_10 rfl ?_
  refine Rn.putI dX0_init_12 fp_X0_15_0 (by first | rfl | exact gC0 (by assumption) | exact gL0 (by assumption)) rfl ?_
  refine Rn.aload_n dX0_init_15 rfl rfl ?_
  refine Rn.iconst (v := (nI 1)) dX0_init_16 rfl ?_
  refine Rn.putI dX0_init_17 fp_X0_18_0 (by first | rfl | exact gC0 (by assumption) | exact gL0 (by assumption)) rfl ?_
  refine Rn.aload_n dX0_init_20 rfl rfl ?_
  refine Rn.bipush (v := (nI 56)) dX0_init_21 rfl ?_
  refine Rn.newaY (n := 63) (k := 10) (len := 56) dX0_init_23 rfl (by decide) wi_167 rfl (by decide) rfl (zOKs 45 (by decide +kernel) rfl (by decide)) h1 (by decide +kernel) (by decide) (by decide) (by decide) (fun ad => ?_)
  refine Rn.putR dX0_init_25 fp_X0_21_0 rfl (by first | rfl | exact gC0 (by assumption) | exact gL0 (by assumption)) rfl (fun _ => ⟨rfl, rfl⟩) ?_
  refine Rn.aload_n dX0_init_28 rfl rfl ?_
  refine Rn.bipush (v := (nI 72)) dX0_init_29 rfl ?_
  refine Rn.newaY (n := 64) (k := 12) (len := 72) dX0_init_31 rfl (by decide) wi_167 rfl (by decide) rfl (zOKs 45 (by decide +kernel) rfl (by decide)) h2 (by decide +kernel) (by decide) (by decide) (by decide) (fun ad => ?_)
  refine Rn.putR dX0_init_33 fp_X0_25_0 rfl (by first | rfl | exact gC0 (by assumption) | exact gL0 (by assumption)) rfl (fun _ => ⟨rfl, rfl⟩) ?_
  refine Rn.aload_n dX0_init_36 rfl rfl ?_
  refine Rn.sipush (v := (nI 240)) dX0_init_37 rfl ?_
  refine Rn.newaY (n := 65) (k := 40) (len := 240) dX0_init_40 rfl (by decide) wi_167 rfl (by decide) rfl (zOKs 45 (by decide +kernel) rfl (by decide)) h3 (by decide +kernel) (by decide) (by decide) (by decide) (fun ad => ?_)
  refine Rn.putR dX0_init_42 fp_X0_28_0 rfl (by first | rfl | exact gC0 (by assumption) | exact gL0 (by assumption)) rfl (fun _ => ⟨rfl, rfl⟩) ?_
  refine Rn.wld wN_4 rfl ?_
  exact Rn.nretY dX0_init_45 rfl rfl rfl
def wN_5 : List Shp := wB 10 44 ++ [.inr (.object "BorrowedLuck$Coast", 12, fM 5)] ++ (GAM.drop 46).take 24
theorem cn_CoastM_5 (h1 : I 67 = fun _ => 0) (h2 : I 68 = fun _ => 0) (h3 : I 69 = fun _ => 0) : Cn G (wM 5 ++ [shC0]) mX0_init (d + 1) 70 [.ref 66] I wN_5 (jC I 66) := by
  refine Cn.mkY [some (.ref 66)] rfl (fun ad => ?_)
  refine Rn.aload_n dX0_init_0 rfl rfl ?_
  refine Rn.objI dX0_init_1 ob_X0_3 (Nat.le_of_ble_eq_true rfl) ?_
  refine Rn.aload_n dX0_init_4 rfl rfl ?_
  refine Rn.iconst (v := (nI 5)) dX0_init_5 rfl ?_
  refine Rn.putI dX0_init_6 fp_X0_9_0 (by first | rfl | exact gC0 (by assumption) | exact gL0 (by assumption)) rfl ?_
  refine Rn.aload_n dX0_init_9 rfl rfl ?_
  refine Rn.bipush (v := (nI 20)) dX0_init_10 rfl ?_
  refine Rn.putI dX0_init_12 fp_X0_15_0 (by first | rfl | exact gC0 (by assumption) | exact gL0 (by assumption)) rfl ?_
  refine Rn.aload_n dX0_init_15 rfl rfl ?_
  refine Rn.iconst (v := (nI 1)) dX0_init_16 rfl ?_
  refine Rn.putI dX0_init_17 fp_X0_18_0 (by first | rfl | exact gC0 (by assumption) | exact gL0 (by assumption)) rfl ?_
  refine Rn.aload_n dX0_init_20 rfl rfl ?_
  refine Rn.bipush (v := (nI 56)) dX0_init_21 rfl ?_
  refine Rn.newaY (n := 67) (k := 10) (len := 56) dX0_init_23 rfl (by decide) wi_167 rfl (by decide) rfl (zOKs 45 (by decide +kernel) rfl (by decide)) h1 (by decide +kernel) (by decide) (by decide) (by decide) (fun ad => ?_)
  refine Rn.putR dX0_init_25 fp_X0_21_0 rfl (by first | rfl | exact gC0 (by assumption) | exact gL0 (by assumption)) rfl (fun _ => ⟨rfl, rfl⟩) ?_
  refine Rn.aload_n dX0_init_28 rfl rfl ?_
  refine Rn.bipush (v := (nI 72)) dX0_init_29 rfl ?_
  refine Rn.newaY (n := 68) (k := 12) (len := 72) dX0_init_31 rfl (by decide) wi_167 rfl (by decide) rfl (zOKs 45 (by decide +kernel) rfl (by decide)) h2 (by decide +kernel) (by decide) (by decide) (by decide) (fun ad => ?_)
  refine Rn.putR dX0_init_33 fp_X0_25_0 rfl (by first | rfl | exact gC0 (by assumption) | exact gL0 (by assumption)) rfl (fun _ => ⟨rfl, rfl⟩) ?_
  refine Rn.aload_n dX0_init_36 rfl rfl ?_
  refine Rn.sipush (v := (nI 240)) dX0_init_37 rfl ?_
  refine Rn.newaY (n := 69) (k := 40) (len := 240) dX0_init_40 rfl (by decide) wi_167 rfl (by decide) rfl (zOKs 45 (by decide +kernel) rfl (by decide)) h3 (by decide +kernel) (by decide) (by decide) (by decide) (fun ad => ?_)
  refine Rn.putR dX0_init_42 fp_X0_28_0 rfl (by first | rfl | exact gC0 (by assumption) | exact gL0 (by assumption)) rfl (fun _ => ⟨rfl, rfl⟩) ?_
  refine Rn.wld wN_5 rfl ?_
  exact Rn.nretY dX0_init_45 rfl rfl rfl
def wN_6 : List Shp := wB 10 44 ++ [.inr (.object "BorrowedLuck$Coast", 12, fM 6)] ++ (GAM.drop 46).take 28
theorem cn_CoastM_6 (h1 : I 71 = fun _ => 0) (h2 : I 72 = fun _ => 0) (h3 : I 73 = fun _ => 0) : Cn G (wM 6 ++ [shC0]) mX0_init (d + 1) 70 [.ref 70] I wN_6 (jC I 70) := by
  refine Cn.mkY [some (.ref 70)] rfl (fun ad => ?_)
  refine Rn.aload_n dX0_init_0 rfl rfl ?_
  refine Rn.objI dX0_init_1 ob_X0_3 (Nat.le_of_ble_eq_true rfl) ?_
  refine Rn.aload_n dX0_init_4 rfl rfl ?_
  refine Rn.iconst (v := (nI 5)) dX0_init_5 rfl ?_
  refine Rn.putI dX0_init_6 fp_X0_9_0 (by first | rfl | exact gC0 (by assumption) | exact gL0 (by assumption)) rfl ?_
  refine Rn.aload_n dX0_init_9 rfl rfl ?_
  refine Rn.bipush (v := (nI 20)) dX0_init_10 rfl ?_
  refine Rn.putI dX0_init_12 fp_X0_15_0 (by first | rfl | exact gC0 (by assumption) | exact gL0 (by assumption)) rfl ?_
  refine Rn.aload_n dX0_init_15 rfl rfl ?_
  refine Rn.iconst (v := (nI 1)) dX0_init_16 rfl ?_
  refine Rn.putI dX0_init_17 fp_X0_18_0 (by first | rfl | exact gC0 (by assumption) | exact gL0 (by assumption)) rfl ?_
  refine Rn.aload_n dX0_init_20 rfl rfl ?_
  refine Rn.bipush (v := (nI 56)) dX0_init_21 rfl ?_
  refine Rn.newaY (n := 71) (k := 10) (len := 56) dX0_init_23 rfl (by decide) wi_167 rfl (by decide) rfl (zOKs 45 (by decide +kernel) rfl (by decide)) h1 (by decide +kernel) (by decide) (by decide) (by decide) (fun ad => ?_)
  refine Rn.putR dX0_init_25 fp_X0_21_0 rfl (by first | rfl | exact gC0 (by assumption) | exact gL0 (by assumption)) rfl (fun _ => ⟨rfl, rfl⟩) ?_
  refine Rn.aload_n dX0_init_28 rfl rfl ?_
  refine Rn.bipush (v := (nI 72)) dX0_init_29 rfl ?_
  refine Rn.newaY (n := 72) (k := 12) (len := 72) dX0_init_31 rfl (by decide) wi_167 rfl (by decide) rfl (zOKs 45 (by decide +kernel) rfl (by decide)) h2 (by decide +kernel) (by decide) (by decide) (by decide) (fun ad => ?_)
  refine Rn.putR dX0_init_33 fp_X0_25_0 rfl (by first | rfl | exact gC0 (by assumption) | exact gL0 (by assumption)) rfl (fun _ => ⟨rfl, rfl⟩) ?_
  refine Rn.aload_n dX0_init_36 rfl rfl ?_
  refine Rn.sipush (v := (nI 240)) dX0_init_37 rfl ?_
  refine Rn.newaY (n := 73) (k := 40) (len := 240) dX0_init_40 rfl (by decide) wi_167 rfl (by decide) rfl (zOKs 45 (by decide +kernel) rfl (by decide)) h3 (by decide +kernel) (by decide) (by decide) (by decide) (fun ad => ?_)
  refine Rn.putR dX0_init_42 fp_X0_28_0 rfl (by first | rfl | exact gC0 (by assumption) | exact gL0 (by assumption)) rfl (fun _ => ⟨rfl, rfl⟩) ?_
  refine Rn.wld wN_6 rfl ?_
  exact Rn.nretY dX0_init_45 rfl rfl rfl
def wN_7 : List Shp := wB 10 44 ++ [.inr (.object "BorrowedLuck$Coast", 12, fM 7)] ++ (GAM.drop 46).take 32
theorem cn_CoastM_7 (h1 : I 75 = fun _ => 0) (h2 : I 76 = fun _ => 0) (h3 : I 77 = fun _ => 0) : Cn G (wM 7 ++ [shC0]) mX0_init (d + 1) 70 [.ref 74] I wN_7 (jC I 74) := by
  refine Cn.mkY [some (.ref 74)] rfl (fun ad => ?_)
  refine Rn.aload_n dX0_init_0 rfl rfl ?_
  refine Rn.objI dX0_init_1 ob_X0_3 (Nat.le_of_ble_eq_true rfl) ?_
  refine Rn.aload_n dX0_init_4 rfl rfl ?_
  refine Rn.iconst (v := (nI 5)) dX0_init_5 rfl ?_
  refine Rn.putI dX0_init_6 fp_X0_9_0 (by first | rfl | exact gC0 (by assumption) | exact gL0 (by assumption)) rfl ?_
  refine Rn.aload_n dX0_init_9 rfl rfl ?_
  refine Rn.bipush (v := (nI 20)) dX0_init_10 rfl ?_
  refine Rn.putI dX0_init_12 fp_X0_15_0 (by first | rfl | exact gC0 (by assumption) | exact gL0 (by assumption)) rfl ?_
  refine Rn.aload_n dX0_init_15 rfl rfl ?_
  refine Rn.iconst (v := (nI 1)) dX0_init_16 rfl ?_
  refine Rn.putI dX0_init_17 fp_X0_18_0 (by first | rfl | exact gC0 (by assumption) | exact gL0 (by assumption)) rfl ?_
  refine Rn.aload_n dX0_init_20 rfl rfl ?_
  refine Rn.bipush (v := (nI 56)) dX0_init_21 rfl ?_
  refine Rn.newaY (n := 75) (k := 10) (len := 56) dX0_init_23 rfl (by decide) wi_167 rfl (by decide) rfl (zOKs 45 (by decide +kernel) rfl (by decide)) h1 (by decide +kernel) (by decide) (by decide) (by decide) (fun ad => ?_)
  refine Rn.putR dX0_init_25 fp_X0_21_0 rfl (by first | rfl | exact gC0 (by assumption) | exact gL0 (by assumption)) rfl (fun _ => ⟨rfl, rfl⟩) ?_
  refine Rn.aload_n dX0_init_28 rfl rfl ?_
  refine Rn.bipush (v := (nI 72)) dX0_init_29 rfl ?_
  refine Rn.newaY (n := 76) (k := 12) (len := 72) dX0_init_31 rfl (by decide) wi_167 rfl (by decide) rfl (zOKs 45 (by decide +kernel) rfl (by decide)) h2 (by decide +kernel) (by decide) (by decide) (by decide) (fun ad => ?_)
  refine Rn.putR dX0_init_33 fp_X0_25_0 rfl (by first | rfl | exact gC0 (by assumption) | exact gL0 (by assumption)) rfl (fun _ => ⟨rfl, rfl⟩) ?_
  refine Rn.aload_n dX0_init_36 rfl rfl ?_
  refine Rn.sipush (v := (nI 240)) dX0_init_37 rfl ?_
  refine Rn.newaY (n := 77) (k := 40) (len := 240) dX0_init_40 rfl (by decide) wi_167 rfl (by decide) rfl (zOKs 45 (by decide +kernel) rfl (by decide)) h3 (by decide +kernel) (by decide) (by decide) (by decide) (fun ad => ?_)
  refine Rn.putR dX0_init_42 fp_X0_28_0 rfl (by first | rfl | exact gC0 (by assumption) | exact gL0 (by assumption)) rfl (fun _ => ⟨rfl, rfl⟩) ?_
  refine Rn.wld wN_7 rfl ?_
  exact Rn.nretY dX0_init_45 rfl rfl rfl
def wN_8 : List Shp := wB 10 44 ++ [.inr (.object "BorrowedLuck$Coast", 12, fM 8)] ++ (GAM.drop 46).take 36
theorem cn_CoastM_8 (h1 : I 79 = fun _ => 0) (h2 : I 80 = fun _ => 0) (h3 : I 81 = fun _ => 0) : Cn G (wM 8 ++ [shC0]) mX0_init (d + 1) 70 [.ref 78] I wN_8 (jC I 78) := by
  refine Cn.mkY [some (.ref 78)] rfl (fun ad => ?_)
  refine Rn.aload_n dX0_init_0 rfl rfl ?_
  refine Rn.objI dX0_init_1 ob_X0_3 (Nat.le_of_ble_eq_true rfl) ?_
  refine Rn.aload_n dX0_init_4 rfl rfl ?_
  refine Rn.iconst (v := (nI 5)) dX0_init_5 rfl ?_
  refine Rn.putI dX0_init_6 fp_X0_9_0 (by first | rfl | exact gC0 (by assumption) | exact gL0 (by assumption)) rfl ?_
  refine Rn.aload_n dX0_init_9 rfl rfl ?_
  refine Rn.bipush (v := (nI 20)) dX0_init_10 rfl ?_
  refine Rn.putI dX0_init_12 fp_X0_15_0 (by first | rfl | exact gC0 (by assumption) | exact gL0 (by assumption)) rfl ?_
  refine Rn.aload_n dX0_init_15 rfl rfl ?_
  refine Rn.iconst (v := (nI 1)) dX0_init_16 rfl ?_
  refine Rn.putI dX0_init_17 fp_X0_18_0 (by first | rfl | exact gC0 (by assumption) | exact gL0 (by assumption)) rfl ?_
  refine Rn.aload_n dX0_init_20 rfl rfl ?_
  refine Rn.bipush (v := (nI 56)) dX0_init_21 rfl ?_
  refine Rn.newaY (n := 79) (k := 10) (len := 56) dX0_init_23 rfl (by decide) wi_167 rfl (by decide) rfl (zOKs 45 (by decide +kernel) rfl (by decide)) h1 (by decide +kernel) (by decide) (by decide) (by decide) (fun ad => ?_)
  refine Rn.putR dX0_init_25 fp_X0_21_0 rfl (by first | rfl | exact gC0 (by assumption) | exact gL0 (by assumption)) rfl (fun _ => ⟨rfl, rfl⟩) ?_
  refine Rn.aload_n dX0_init_28 rfl rfl ?_
  refine Rn.bipush (v := (nI 72)) dX0_init_29 rfl ?_
  refine Rn.newaY (n := 80) (k := 12) (len := 72) dX0_init_31 rfl (by decide) wi_167 rfl (by decide) rfl (zOKs 45 (by decide +kernel) rfl (by decide)) h2 (by decide +kernel) (by decide) (by decide) (by decide) (fun ad => ?_)
  refine Rn.putR dX0_init_33 fp_X0_25_0 rfl (by first | rfl | exact gC0 (by assumption) | exact gL0 (by assumption)) rfl (fun _ => ⟨rfl, rfl⟩) ?_
  refine Rn.aload_n dX0_init_36 rfl rfl ?_
  refine Rn.sipush (v := (nI 240)) dX0_init_37 rfl ?_
  refine Rn.newaY (n := 81) (k := 40) (len := 240) dX0_init_40 rfl (by decide) wi_167 rfl (by decide) rfl (zOKs 45 (by decide +kernel) rfl (by decide)) h3 (by decide +kernel) (by decide) (by decide) (by decide) (fun ad => ?_)
  refine Rn.putR dX0_init_42 fp_X0_28_0 rfl (by first | rfl | exact gC0 (by assumption) | exact gL0 (by assumption)) rfl (fun _ => ⟨rfl, rfl⟩) ?_
  refine Rn.wld wN_8 rfl ?_
  exact Rn.nretY dX0_init_45 rfl rfl rfl
def wN_9 : List Shp := wB 10 44 ++ [.inr (.object "BorrowedLuck$Coast", 12, fM 9)] ++ (GAM.drop 46).take 40
theorem cn_CoastM_9 (h1 : I 83 = fun _ => 0) (h2 : I 84 = fun _ => 0) (h3 : I 85 = fun _ => 0) : Cn G (wM 9 ++ [shC0]) mX0_init (d + 1) 70 [.ref 82] I wN_9 (jC I 82) := by
  refine Cn.mkY [some (.ref 82)] rfl (fun ad => ?_)
  refine Rn.aload_n dX0_init_0 rfl rfl ?_
  refine Rn.objI dX0_init_1 ob_X0_3 (Nat.le_of_ble_eq_true rfl) ?_
  refine Rn.aload_n dX0_init_4 rfl rfl ?_
  refine Rn.iconst (v := (nI 5)) dX0_init_5 rfl ?_
  refine Rn.putI dX0_init_6 fp_X0_9_0 (by first | rfl | exact gC0 (by assumption) | exact gL0 (by assumption)) rfl ?_
  refine Rn.aload_n dX0_init_9 rfl rfl ?_
  refine Rn.bipush (v := (nI 20)) dX0_init_10 rfl ?_
  refine Rn.putI dX0_init_12 fp_X0_15_0 (by first | rfl | exact gC0 (by assumption) | exact gL0 (by assumption)) rfl ?_
  refine Rn.aload_n dX0_init_15 rfl rfl ?_
  refine Rn.iconst (v := (nI 1)) dX0_init_16 rfl ?_
  refine Rn.putI dX0_init_17 fp_X0_18_0 (by first | rfl | exact gC0 (by assumption) | exact gL0 (by assumption)) rfl ?_
  refine Rn.aload_n dX0_init_20 rfl rfl ?_
  refine Rn.bipush (v := (nI 56)) dX0_init_21 rfl ?_
  refine Rn.newaY (n := 83) (k := 10) (len := 56) dX0_init_23 rfl (by decide) wi_167 rfl (by decide) rfl (zOKs 45 (by decide +kernel) rfl (by decide)) h1 (by decide +kernel) (by decide) (by decide) (by decide) (fun ad => ?_)
  refine Rn.putR dX0_init_25 fp_X0_21_0 rfl (by first | rfl | exact gC0 (by assumption) | exact gL0 (by assumption)) rfl (fun _ => ⟨rfl, rfl⟩) ?_
  refine Rn.aload_n dX0_init_28 rfl rfl ?_
  refine Rn.bipush (v := (nI 72)) dX0_init_29 rfl ?_
  refine Rn.newaY (n := 84) (k := 12) (len := 72) dX0_init_31 rfl (by decide) wi_167 rfl (by decide) rfl (zOKs 45 (by decide +kernel) rfl (by decide)) h2 (by decide +kernel) (by decide) (by decide) (by decide) (fun ad => ?_)
  refine Rn.putR dX0_init_33 fp_X0_25_0 rfl (by first | rfl | exact gC0 (by assumption) | exact gL0 (by assumption)) rfl (fun _ => ⟨rfl, rfl⟩) ?_
  refine Rn.aload_n dX0_init_36 rfl rfl ?_
  refine Rn.sipush (v := (nI 240)) dX0_init_37 rfl ?_
  refine Rn.newaY (n := 85) (k := 40) (len := 240) dX0_init_40 rfl (by decide) wi_167 rfl (by decide) rfl (zOKs 45 (by decide +kernel) rfl (by decide)) h3 (by decide +kernel) (by decide) (by decide) (by decide) (fun ad => ?_)
  refine Rn.putR dX0_init_42 fp_X0_28_0 rfl (by first | rfl | exact gC0 (by assumption) | exact gL0 (by assumption)) rfl (fun _ => ⟨rfl, rfl⟩) ?_
  refine Rn.wld wN_9 rfl ?_
  exact Rn.nretY dX0_init_45 rfl rfl rfl
def wN_10 : List Shp := wB 10 44 ++ [.inr (.object "BorrowedLuck$Coast", 12, fM 10)] ++ (GAM.drop 46).take 44
theorem cn_CoastM_10 (h1 : I 87 = fun _ => 0) (h2 : I 88 = fun _ => 0) (h3 : I 89 = fun _ => 0) : Cn G (wM 10 ++ [shC0]) mX0_init (d + 1) 70 [.ref 86] I wN_10 (jC I 86) := by
  refine Cn.mkY [some (.ref 86)] rfl (fun ad => ?_)
  refine Rn.aload_n dX0_init_0 rfl rfl ?_
  refine Rn.objI dX0_init_1 ob_X0_3 (Nat.le_of_ble_eq_true rfl) ?_
  refine Rn.aload_n dX0_init_4 rfl rfl ?_
  refine Rn.iconst (v := (nI 5)) dX0_init_5 rfl ?_
  refine Rn.putI dX0_init_6 fp_X0_9_0 (by first | rfl | exact gC0 (by assumption) | exact gL0 (by assumption)) rfl ?_
  refine Rn.aload_n dX0_init_9 rfl rfl ?_
  refine Rn.bipush (v := (nI 20)) dX0_init_10 rfl ?_
  refine Rn.putI dX0_init_12 fp_X0_15_0 (by first | rfl | exact gC0 (by assumption) | exact gL0 (by assumption)) rfl ?_
  refine Rn.aload_n dX0_init_15 rfl rfl ?_
  refine Rn.iconst (v := (nI 1)) dX0_init_16 rfl ?_
  refine Rn.putI dX0_init_17 fp_X0_18_0 (by first | rfl | exact gC0 (by assumption) | exact gL0 (by assumption)) rfl ?_
  refine Rn.aload_n dX0_init_20 rfl rfl ?_
  refine Rn.bipush (v := (nI 56)) dX0_init_21 rfl ?_
  refine Rn.newaY (n := 87) (k := 10) (len := 56) dX0_init_23 rfl (by decide) wi_167 rfl (by decide) rfl (zOKs 45 (by decide +kernel) rfl (by decide)) h1 (by decide +kernel) (by decide) (by decide) (by decide) (fun ad => ?_)
  refine Rn.putR dX0_init_25 fp_X0_21_0 rfl (by first | rfl | exact gC0 (by assumption) | exact gL0 (by assumption)) rfl (fun _ => ⟨rfl, rfl⟩) ?_
  refine Rn.aload_n dX0_init_28 rfl rfl ?_
  refine Rn.bipush (v := (nI 72)) dX0_init_29 rfl ?_
  refine Rn.newaY (n := 88) (k := 12) (len := 72) dX0_init_31 rfl (by decide) wi_167 rfl (by decide) rfl (zOKs 45 (by decide +kernel) rfl (by decide)) h2 (by decide +kernel) (by decide) (by decide) (by decide) (fun ad => ?_)
  refine Rn.putR dX0_init_33 fp_X0_25_0 rfl (by first | rfl | exact gC0 (by assumption) | exact gL0 (by assumption)) rfl (fun _ => ⟨rfl, rfl⟩) ?_
  refine Rn.aload_n dX0_init_36 rfl rfl ?_
  refine Rn.sipush (v := (nI 240)) dX0_init_37 rfl ?_
  refine Rn.newaY (n := 89) (k := 40) (len := 240) dX0_init_40 rfl (by decide) wi_167 rfl (by decide) rfl (zOKs 45 (by decide +kernel) rfl (by decide)) h3 (by decide +kernel) (by decide) (by decide) (by decide) (fun ad => ?_)
  refine Rn.putR dX0_init_42 fp_X0_28_0 rfl (by first | rfl | exact gC0 (by assumption) | exact gL0 (by assumption)) rfl (fun _ => ⟨rfl, rfl⟩) ?_
  refine Rn.wld wN_10 rfl ?_
  exact Rn.nretY dX0_init_45 rfl rfl rfl
def wN_11 : List Shp := wB 10 44 ++ [.inr (.object "BorrowedLuck$Coast", 12, fM 11)] ++ (GAM.drop 46).take 48
theorem cn_CoastM_11 (h1 : I 91 = fun _ => 0) (h2 : I 92 = fun _ => 0) (h3 : I 93 = fun _ => 0) : Cn G (wM 11 ++ [shC0]) mX0_init (d + 1) 70 [.ref 90] I wN_11 (jC I 90) := by
  refine Cn.mkY [some (.ref 90)] rfl (fun ad => ?_)
  refine Rn.aload_n dX0_init_0 rfl rfl ?_
  refine Rn.objI dX0_init_1 ob_X0_3 (Nat.le_of_ble_eq_true rfl) ?_
  refine Rn.aload_n dX0_init_4 rfl rfl ?_
  refine Rn.iconst (v := (nI 5)) dX0_init_5 rfl ?_
  refine Rn.putI dX0_init_6 fp_X0_9_0 (by first | rfl | exact gC0 (by assumption) | exact gL0 (by assumption)) rfl ?_
  refine Rn.aload_n dX0_init_9 rfl rfl ?_
  refine Rn.bipush (v := (nI 20)) dX0_init_10 rfl ?_
  refine Rn.putI dX0_init_12 fp_X0_15_0 (by first | rfl | exact gC0 (by assumption) | exact gL0 (by assumption)) rfl ?_
  refine Rn.aload_n dX0_init_15 rfl rfl ?_
  refine Rn.iconst (v := (nI 1)) dX0_init_16 rfl ?_
  refine Rn.putI dX0_init_17 fp_X0_18_0 (by first | rfl | exact gC0 (by assumption) | exact gL0 (by assumption)) rfl ?_
  refine Rn.aload_n dX0_init_20 rfl rfl ?_
  refine Rn.bipush (v := (nI 56)) dX0_init_21 rfl ?_
  refine Rn.newaY (n := 91) (k := 10) (len := 56) dX0_init_23 rfl (by decide) wi_167 rfl (by decide) rfl (zOKs 45 (by decide +kernel) rfl (by decide)) h1 (by decide +kernel) (by decide) (by decide) (by decide) (fun ad => ?_)
  refine Rn.putR dX0_init_25 fp_X0_21_0 rfl (by first | rfl | exact gC0 (by assumption) | exact gL0 (by assumption)) rfl (fun _ => ⟨rfl, rfl⟩) ?_
  refine Rn.aload_n dX0_init_28 rfl rfl ?_
  refine Rn.bipush (v := (nI 72)) dX0_init_29 rfl ?_
  refine Rn.newaY (n := 92) (k := 12) (len := 72) dX0_init_31 rfl (by decide) wi_167 rfl (by decide) rfl (zOKs 45 (by decide +kernel) rfl (by decide)) h2 (by decide +kernel) (by decide) (by decide) (by decide) (fun ad => ?_)
  refine Rn.putR dX0_init_33 fp_X0_25_0 rfl (by first | rfl | exact gC0 (by assumption) | exact gL0 (by assumption)) rfl (fun _ => ⟨rfl, rfl⟩) ?_
  refine Rn.aload_n dX0_init_36 rfl rfl ?_
  refine Rn.sipush (v := (nI 240)) dX0_init_37 rfl ?_
  refine Rn.newaY (n := 93) (k := 40) (len := 240) dX0_init_40 rfl (by decide) wi_167 rfl (by decide) rfl (zOKs 45 (by decide +kernel) rfl (by decide)) h3 (by decide +kernel) (by decide) (by decide) (by decide) (fun ad => ?_)
  refine Rn.putR dX0_init_42 fp_X0_28_0 rfl (by first | rfl | exact gC0 (by assumption) | exact gL0 (by assumption)) rfl (fun _ => ⟨rfl, rfl⟩) ?_
  refine Rn.wld wN_11 rfl ?_
  exact Rn.nretY dX0_init_45 rfl rfl rfl
theorem cn_Law_16 (h1 : I 17 = fun _ => 0) (h2 : I 18 = fun _ => 0) (h3 : I 19 = fun _ => 0) (h4 : I 20 = fun _ => 0) (h5 : I 21 = fun _ => 0) (h6 : I 22 = fun _ => 0) : Cn G (wB 4 14 ++ [.inl (5, [some none])] ++ [shL0]) mX2_init (d + 1) 100 [.ref 16] I (wB 4 14 ++ [.inl (5, [some none])] ++ (GAM.drop 16).take 7) (zup I 16 0 (-1)) := by
  refine Cn.mkY [some (.ref 16)] rfl (fun ad => ?_)
  refine Rn.aload_n dX2_init_0 rfl rfl ?_
  refine Rn.objI dX2_init_1 ob_X2_3 (Nat.le_of_ble_eq_true rfl) ?_
  refine Rn.aload_n dX2_init_4 rfl rfl ?_
  refine Rn.iconst (v := (-1)) dX2_init_5 rfl ?_
  refine Rn.putI dX2_init_6 fp_X2_9_2 (by first | rfl | exact gC0 (by assumption) | exact gL0 (by assumption)) rfl ?_
  refine Rn.aload_n dX2_init_9 rfl rfl ?_
  refine Rn.bipush (v := (nI 12)) dX2_init_10 rfl ?_
  refine Rn.newaY (n := 17) (k := 2) (len := 12) dX2_init_12 rfl (by decide) wi_167 rfl (by decide) rfl (zOKb (by decide +kernel)) h1 (by decide +kernel) (by decide) (by decide) (by decide) (fun ad => ?_)
  refine Rn.putR dX2_init_14 fp_X2_15_2 rfl (by first | rfl | exact gC0 (by assumption) | exact gL0 (by assumption)) rfl (fun _ => ⟨rfl, rfl⟩) ?_
  refine Rn.aload_n dX2_init_17 rfl rfl ?_
  refine Rn.bipush (v := (nI 12)) dX2_init_18 rfl ?_
  refine Rn.newaY (n := 18) (k := 2) (len := 12) dX2_init_20 rfl (by decide) wi_167 rfl (by decide) rfl (zOKb (by decide +kernel)) h2 (by decide +kernel) (by decide) (by decide) (by decide) (fun ad => ?_)
  refine Rn.putR dX2_init_22 fp_X2_19_2 rfl (by first | rfl | exact gC0 (by assumption) | exact gL0 (by assumption)) rfl (fun _ => ⟨rfl, rfl⟩) ?_
  refine Rn.aload_n dX2_init_25 rfl rfl ?_
  refine Rn.bipush (v := (nI 12)) dX2_init_26 rfl ?_
  refine Rn.newaY (n := 19) (k := 2) (len := 12) dX2_init_28 rfl (by decide) wi_167 rfl (by decide) rfl (zOKb (by decide +kernel)) h3 (by decide +kernel) (by decide) (by decide) (by decide) (fun ad => ?_)
  refine Rn.putR dX2_init_30 fp_X2_22_2 rfl (by first | rfl | exact gC0 (by assumption) | exact gL0 (by assumption)) rfl (fun _ => ⟨rfl, rfl⟩) ?_
  refine Rn.aload_n dX2_init_33 rfl rfl ?_
  refine Rn.sipush (v := (nI 400)) dX2_init_34 rfl ?_
  refine Rn.newaY (n := 20) (k := 67) (len := 400) dX2_init_37 rfl (by decide) wi_167 rfl (by decide) rfl (zOKb (by decide +kernel)) h4 (by decide +kernel) (by decide) (by decide) (by decide) (fun ad => ?_)
  refine Rn.putR dX2_init_39 fp_X2_25_2 rfl (by first | rfl | exact gC0 (by assumption) | exact gL0 (by assumption)) rfl (fun _ => ⟨rfl, rfl⟩) ?_
  refine Rn.aload_n dX2_init_42 rfl rfl ?_
  refine Rn.bipush (v := (nI 10)) dX2_init_43 rfl ?_
  refine Rn.newaY (n := 21) (k := 2) (len := 10) dX2_init_45 rfl (by decide) wi_167 rfl (by decide) rfl (zOKb (by decide +kernel)) h5 (by decide +kernel) (by decide) (by decide) (by decide) (fun ad => ?_)
  refine Rn.putR dX2_init_47 fp_X2_28_2 rfl (by first | rfl | exact gC0 (by assumption) | exact gL0 (by assumption)) rfl (fun _ => ⟨rfl, rfl⟩) ?_
  refine Rn.aload_n dX2_init_50 rfl rfl ?_
  refine Rn.bipush (v := (nI 32)) dX2_init_51 rfl ?_
  refine Rn.newaY (n := 22) (k := 6) (len := 32) dX2_init_53 rfl (by decide) wi_167 rfl (by decide) rfl (zOKb (by decide +kernel)) h6 (by decide +kernel) (by decide) (by decide) (by decide) (fun ad => ?_)
  refine Rn.putR dX2_init_55 fp_X2_31_2 rfl (by first | rfl | exact gC0 (by assumption) | exact gL0 (by assumption)) rfl (fun _ => ⟨rfl, rfl⟩) ?_
  refine Rn.wld (wB 4 14 ++ [.inl (5, [some none])] ++ (GAM.drop 16).take 7) rfl ?_
  exact Rn.nretY dX2_init_58 rfl rfl rfl
theorem cn_Law_23 (h1 : I 24 = fun _ => 0) (h2 : I 25 = fun _ => 0) (h3 : I 26 = fun _ => 0) (h4 : I 27 = fun _ => 0) (h5 : I 28 = fun _ => 0) (h6 : I 29 = fun _ => 0) : Cn G (wB 5 22 ++ [shL0]) mX2_init (d + 1) 100 [.ref 23] I (wB 5 29) (zup I 23 0 (-1)) := by
  refine Cn.mkY [some (.ref 23)] rfl (fun ad => ?_)
  refine Rn.aload_n dX2_init_0 rfl rfl ?_
  refine Rn.objI dX2_init_1 ob_X2_3 (Nat.le_of_ble_eq_true rfl) ?_
  refine Rn.aload_n dX2_init_4 rfl rfl ?_
  refine Rn.iconst (v := (-1)) dX2_init_5 rfl ?_
  refine Rn.putI dX2_init_6 fp_X2_9_2 (by first | rfl | exact gC0 (by assumption) | exact gL0 (by assumption)) rfl ?_
  refine Rn.aload_n dX2_init_9 rfl rfl ?_
  refine Rn.bipush (v := (nI 12)) dX2_init_10 rfl ?_
  refine Rn.newaY (n := 24) (k := 2) (len := 12) dX2_init_12 rfl (by decide) wi_167 rfl (by decide) rfl (zOKb (by decide +kernel)) h1 (by decide +kernel) (by decide) (by decide) (by decide) (fun ad => ?_)
  refine Rn.putR dX2_init_14 fp_X2_15_2 rfl (by first | rfl | exact gC0 (by assumption) | exact gL0 (by assumption)) rfl (fun _ => ⟨rfl, rfl⟩) ?_
  refine Rn.aload_n dX2_init_17 rfl rfl ?_
  refine Rn.bipush (v := (nI 12)) dX2_init_18 rfl ?_
  refine Rn.newaY (n := 25) (k := 2) (len := 12) dX2_init_20 rfl (by decide) wi_167 rfl (by decide) rfl (zOKb (by decide +kernel)) h2 (by decide +kernel) (by decide) (by decide) (by decide) (fun ad => ?_)
  refine Rn.putR dX2_init_22 fp_X2_19_2 rfl (by first | rfl | exact gC0 (by assumption) | exact gL0 (by assumption)) rfl (fun _ => ⟨rfl, rfl⟩) ?_
  refine Rn.aload_n dX2_init_25 rfl rfl ?_
  refine Rn.bipush (v := (nI 12)) dX2_init_26 rfl ?_
  refine Rn.newaY (n := 26) (k := 2) (len := 12) dX2_init_28 rfl (by decide) wi_167 rfl (by decide) rfl (zOKb (by decide +kernel)) h3 (by decide +kernel) (by decide) (by decide) (by decide) (fun ad => ?_)
  refine Rn.putR dX2_init_30 fp_X2_22_2 rfl (by first | rfl | exact gC0 (by assumption) | exact gL0 (by assumption)) rfl (fun _ => ⟨rfl, rfl⟩) ?_
  refine Rn.aload_n dX2_init_33 rfl rfl ?_
  refine Rn.sipush (v := (nI 400)) dX2_init_34 rfl ?_
  refine Rn.newaY (n := 27) (k := 67) (len := 400) dX2_init_37 rfl (by decide) wi_167 rfl (by decide) rfl (zOKb (by decide +kernel)) h4 (by decide +kernel) (by decide) (by decide) (by decide) (fun ad => ?_)
  refine Rn.putR dX2_init_39 fp_X2_25_2 rfl (by first | rfl | exact gC0 (by assumption) | exact gL0 (by assumption)) rfl (fun _ => ⟨rfl, rfl⟩) ?_
  refine Rn.aload_n dX2_init_42 rfl rfl ?_
  refine Rn.bipush (v := (nI 10)) dX2_init_43 rfl ?_
  refine Rn.newaY (n := 28) (k := 2) (len := 10) dX2_init_45 rfl (by decide) wi_167 rfl (by decide) rfl (zOKb (by decide +kernel)) h5 (by decide +kernel) (by decide) (by decide) (by decide) (fun ad => ?_)
  refine Rn.putR dX2_init_47 fp_X2_28_2 rfl (by first | rfl | exact gC0 (by assumption) | exact gL0 (by assumption)) rfl (fun _ => ⟨rfl, rfl⟩) ?_
  refine Rn.aload_n dX2_init_50 rfl rfl ?_
  refine Rn.bipush (v := (nI 32)) dX2_init_51 rfl ?_
  refine Rn.newaY (n := 29) (k := 6) (len := 32) dX2_init_53 rfl (by decide) wi_167 rfl (by decide) rfl (zOKb (by decide +kernel)) h6 (by decide +kernel) (by decide) (by decide) (by decide) (fun ad => ?_)
  refine Rn.putR dX2_init_55 fp_X2_31_2 rfl (by first | rfl | exact gC0 (by assumption) | exact gL0 (by assumption)) rfl (fun _ => ⟨rfl, rfl⟩) ?_
  refine Rn.wld (wB 5 29) rfl ?_
  exact Rn.nretY dX2_init_58 rfl rfl rfl
theorem cn_Law_30 (h1 : I 31 = fun _ => 0) (h2 : I 32 = fun _ => 0) (h3 : I 33 = fun _ => 0) (h4 : I 34 = fun _ => 0) (h5 : I 35 = fun _ => 0) (h6 : I 36 = fun _ => 0) : Cn G (wB 6 29 ++ [shL0]) mX2_init (d + 1) 100 [.ref 30] I (wB 6 36) (zup I 30 0 (-1)) := by
  refine Cn.mkY [some (.ref 30)] rfl (fun ad => ?_)
  refine Rn.aload_n dX2_init_0 rfl rfl ?_
  refine Rn.objI dX2_init_1 ob_X2_3 (Nat.le_of_ble_eq_true rfl) ?_
  refine Rn.aload_n dX2_init_4 rfl rfl ?_
  refine Rn.iconst (v := (-1)) dX2_init_5 rfl ?_
  refine Rn.putI dX2_init_6 fp_X2_9_2 (by first | rfl | exact gC0 (by assumption) | exact gL0 (by assumption)) rfl ?_
  refine Rn.aload_n dX2_init_9 rfl rfl ?_
  refine Rn.bipush (v := (nI 12)) dX2_init_10 rfl ?_
  refine Rn.newaY (n := 31) (k := 2) (len := 12) dX2_init_12 rfl (by decide) wi_167 rfl (by decide) rfl (zOKb (by decide +kernel)) h1 (by decide +kernel) (by decide) (by decide) (by decide) (fun ad => ?_)
  refine Rn.putR dX2_init_14 fp_X2_15_2 rfl (by first | rfl | exact gC0 (by assumption) | exact gL0 (by assumption)) rfl (fun _ => ⟨rfl, rfl⟩) ?_
  refine Rn.aload_n dX2_init_17 rfl rfl ?_
  refine Rn.bipush (v := (nI 12)) dX2_init_18 rfl ?_
  refine Rn.newaY (n := 32) (k := 2) (len := 12) dX2_init_20 rfl (by decide) wi_167 rfl (by decide) rfl (zOKb (by decide +kernel)) h2 (by decide +kernel) (by decide) (by decide) (by decide) (fun ad => ?_)
  refine Rn.putR dX2_init_22 fp_X2_19_2 rfl (by first | rfl | exact gC0 (by assumption) | exact gL0 (by assumption)) rfl (fun _ => ⟨rfl, rfl⟩) ?_
  refine Rn.aload_n dX2_init_25 rfl rfl ?_
  refine Rn.bipush (v := (nI 12)) dX2_init_26 rfl ?_
  refine Rn.newaY (n := 33) (k := 2) (len := 12) dX2_init_28 rfl (by decide) wi_167 rfl (by decide) rfl (zOKb (by decide +kernel)) h3 (by decide +kernel) (by decide) (by decide) (by decide) (fun ad => ?_)
  refine Rn.putR dX2_init_30 fp_X2_22_2 rfl (by first | rfl | exact gC0 (by assumption) | exact gL0 (by assumption)) rfl (fun _ => ⟨rfl, rfl⟩) ?_
  refine Rn.aload_n dX2_init_33 rfl rfl ?_
  refine Rn.sipush (v := (nI 400)) dX2_init_34 rfl ?_
  refine Rn.newaY (n := 34) (k := 67) (len := 400) dX2_init_37 rfl (by decide) wi_167 rfl (by decide) rfl (zOKb (by decide +kernel)) h4 (by decide +kernel) (by decide) (by decide) (by decide) (fun ad => ?_)
  refine Rn.putR dX2_init_39 fp_X2_25_2 rfl (by first | rfl | exact gC0 (by assumption) | exact gL0 (by assumption)) rfl (fun _ => ⟨rfl, rfl⟩) ?_
  refine Rn.aload_n dX2_init_42 rfl rfl ?_
  refine Rn.bipush (v := (nI 10)) dX2_init_43 rfl ?_
  refine Rn.newaY (n := 35) (k := 2) (len := 10) dX2_init_45 rfl (by decide) wi_167 rfl (by decide) rfl (zOKb (by decide +kernel)) h5 (by decide +kernel) (by decide) (by decide) (by decide) (fun ad => ?_)
  refine Rn.putR dX2_init_47 fp_X2_28_2 rfl (by first | rfl | exact gC0 (by assumption) | exact gL0 (by assumption)) rfl (fun _ => ⟨rfl, rfl⟩) ?_
  refine Rn.aload_n dX2_init_50 rfl rfl ?_
  refine Rn.bipush (v := (nI 32)) dX2_init_51 rfl ?_
  refine Rn.newaY (n := 36) (k := 6) (len := 32) dX2_init_53 rfl (by decide) wi_167 rfl (by decide) rfl (zOKb (by decide +kernel)) h6 (by decide +kernel) (by decide) (by decide) (by decide) (fun ad => ?_)
  refine Rn.putR dX2_init_55 fp_X2_31_2 rfl (by first | rfl | exact gC0 (by assumption) | exact gL0 (by assumption)) rfl (fun _ => ⟨rfl, rfl⟩) ?_
  refine Rn.wld (wB 6 36) rfl ?_
  exact Rn.nretY dX2_init_58 rfl rfl rfl
theorem cn_Rites (h0 : I 16 = fun _ => 0) (h1 : I 17 = fun _ => 0) (h2 : I 18 = fun _ => 0) (h3 : I 19 = fun _ => 0) (h4 : I 20 = fun _ => 0) (h5 : I 21 = fun _ => 0) (h6 : I 22 = fun _ => 0) : Cn G (wB 4 14 ++ [.inl (5, [some none])]) mX6_init (d + 2) 110 [.ref 15] I (wB 4 22) (zup I 16 0 (-1)) := by
  refine Cn.mkY [some (.ref 15)] rfl (fun ad => ?_)
  refine Rn.aload_n dX6_init_0 rfl rfl ?_
  refine Rn.objI dX6_init_1 ob_X6_3 (Nat.le_of_ble_eq_true rfl) ?_
  refine Rn.aload_n dX6_init_4 rfl rfl ?_
  refine Rn.newY (n := 16) (k := 2) dX6_init_5 nw_X6_9 rfl (zOKb (by decide +kernel)) h0 (by decide +kernel) (by decide) (by decide) (by decide) (fun ad => ?_)
  refine Rn.dup dX6_init_8 rfl ?_
  refine Rn.ctorY (mc := 100) (n := 17) (n2 := 23) (As := []) dX6_init_9 (Or.inr mi_X6_11) rfl rfl rfl (Nat.le_of_ble_eq_true rfl) (cn_Law_16 _ _ _ h1 h2 h3 h4 h5 h6) rfl rfl (by decide +kernel) (by decide) (by decide) (fun ad => ?_)
  refine Rn.putR dX6_init_12 fp_X6_12_5 rfl (by first | rfl | exact gC0 (by assumption) | exact gL0 (by assumption)) rfl (fun _ => ⟨rfl, rfl⟩) ?_
  refine Rn.wld (wB 4 22) rfl ?_
  exact Rn.nretY dX6_init_15 rfl rfl rfl
end Init
