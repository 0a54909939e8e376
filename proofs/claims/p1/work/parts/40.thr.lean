abbrev mJ6_bitCount_0f7a4 : Ym := (yJ6_bitCount_0f7a4, cJ6_bitCount_0f7a4, 1, some .int)
theorem dJ6_bitCount_0f7a4_0 : decode cJ6_bitCount_0f7a4 0 = .ok (.iload_n 0, 1) := by decide +kernel
theorem dJ6_bitCount_0f7a4_1 : decode cJ6_bitCount_0f7a4 1 = .ok (.iload_n 0, 1) := by decide +kernel
theorem dJ6_bitCount_0f7a4_2 : decode cJ6_bitCount_0f7a4 2 = .ok (.iconst 1, 1) := by decide +kernel
theorem dJ6_bitCount_0f7a4_3 : decode cJ6_bitCount_0f7a4 3 = .ok (.iushr, 1) := by decide +kernel
theorem dJ6_bitCount_0f7a4_4 : decode cJ6_bitCount_0f7a4 4 = .ok (.ldc_w 265, 3) := by decide +kernel
theorem wi_1122 : Cond.constant RJ6 265 (1431655765) ∈ WA := zin 1122 (by decide +kernel) (by decide +kernel)
theorem kc_J6_265 : Cond.constant RJ6 265 (1431655765) ∈ WA := wi_1122
theorem dJ6_bitCount_0f7a4_7 : decode cJ6_bitCount_0f7a4 7 = .ok (.iand, 1) := by decide +kernel
theorem dJ6_bitCount_0f7a4_8 : decode cJ6_bitCount_0f7a4 8 = .ok (.isub, 1) := by decide +kernel
theorem dJ6_bitCount_0f7a4_9 : decode cJ6_bitCount_0f7a4 9 = .ok (.istore_n 0, 1) := by decide +kernel
theorem dJ6_bitCount_0f7a4_10 : decode cJ6_bitCount_0f7a4 10 = .ok (.iload_n 0, 1) := by decide +kernel
theorem dJ6_bitCount_0f7a4_11 : decode cJ6_bitCount_0f7a4 11 = .ok (.ldc_w 266, 3) := by decide +kernel
theorem wi_1123 : Cond.constant RJ6 266 (858993459) ∈ WA := zin 1123 (by decide +kernel) (by decide +kernel)
theorem kc_J6_266 : Cond.constant RJ6 266 (858993459) ∈ WA := wi_1123
theorem dJ6_bitCount_0f7a4_14 : decode cJ6_bitCount_0f7a4 14 = .ok (.iand, 1) := by decide +kernel
theorem dJ6_bitCount_0f7a4_15 : decode cJ6_bitCount_0f7a4 15 = .ok (.iload_n 0, 1) := by decide +kernel
theorem dJ6_bitCount_0f7a4_16 : decode cJ6_bitCount_0f7a4 16 = .ok (.iconst 2, 1) := by decide +kernel
theorem dJ6_bitCount_0f7a4_17 : decode cJ6_bitCount_0f7a4 17 = .ok (.iushr, 1) := by decide +kernel
theorem dJ6_bitCount_0f7a4_18 : decode cJ6_bitCount_0f7a4 18 = .ok (.ldc_w 266, 3) := by decide +kernel
theorem dJ6_bitCount_0f7a4_21 : decode cJ6_bitCount_0f7a4 21 = .ok (.iand, 1) := by decide +kernel
theorem dJ6_bitCount_0f7a4_22 : decode cJ6_bitCount_0f7a4 22 = .ok (.iadd, 1) := by decide +kernel
theorem dJ6_bitCount_0f7a4_23 : decode cJ6_bitCount_0f7a4 23 = .ok (.istore_n 0, 1) := by decide +kernel
theorem dJ6_bitCount_0f7a4_24 : decode cJ6_bitCount_0f7a4 24 = .ok (.iload_n 0, 1) := by decide +kernel
theorem dJ6_bitCount_0f7a4_25 : decode cJ6_bitCount_0f7a4 25 = .ok (.iload_n 0, 1) := by decide +kernel
theorem dJ6_bitCount_0f7a4_26 : decode cJ6_bitCount_0f7a4 26 = .ok (.iconst 4, 1) := by decide +kernel
theorem dJ6_bitCount_0f7a4_27 : decode cJ6_bitCount_0f7a4 27 = .ok (.iushr, 1) := by decide +kernel
theorem dJ6_bitCount_0f7a4_28 : decode cJ6_bitCount_0f7a4 28 = .ok (.iadd, 1) := by decide +kernel
theorem dJ6_bitCount_0f7a4_29 : decode cJ6_bitCount_0f7a4 29 = .ok (.ldc_w 267, 3) := by decide +kernel
theorem wi_1124 : Cond.constant RJ6 267 (252645135) ∈ WA := zin 1124 (by decide +kernel) (by decide +kernel)
theorem kc_J6_267 : Cond.constant RJ6 267 (252645135) ∈ WA := wi_1124
theorem dJ6_bitCount_0f7a4_32 : decode cJ6_bitCount_0f7a4 32 = .ok (.iand, 1) := by decide +kernel
theorem dJ6_bitCount_0f7a4_33 : decode cJ6_bitCount_0f7a4 33 = .ok (.istore_n 0, 1) := by decide +kernel
theorem dJ6_bitCount_0f7a4_34 : decode cJ6_bitCount_0f7a4 34 = .ok (.iload_n 0, 1) := by decide +kernel
theorem dJ6_bitCount_0f7a4_35 : decode cJ6_bitCount_0f7a4 35 = .ok (.iload_n 0, 1) := by decide +kernel
theorem dJ6_bitCount_0f7a4_36 : decode cJ6_bitCount_0f7a4 36 = .ok (.bipush 8, 2) := by decide +kernel
theorem dJ6_bitCount_0f7a4_38 : decode cJ6_bitCount_0f7a4 38 = .ok (.iushr, 1) := by decide +kernel
theorem dJ6_bitCount_0f7a4_39 : decode cJ6_bitCount_0f7a4 39 = .ok (.iadd, 1) := by decide +kernel
theorem dJ6_bitCount_0f7a4_40 : decode cJ6_bitCount_0f7a4 40 = .ok (.istore_n 0, 1) := by decide +kernel
theorem dJ6_bitCount_0f7a4_41 : decode cJ6_bitCount_0f7a4 41 = .ok (.iload_n 0, 1) := by decide +kernel
theorem dJ6_bitCount_0f7a4_42 : decode cJ6_bitCount_0f7a4 42 = .ok (.iload_n 0, 1) := by decide +kernel
theorem dJ6_bitCount_0f7a4_43 : decode cJ6_bitCount_0f7a4 43 = .ok (.bipush 16, 2) := by decide +kernel
theorem dJ6_bitCount_0f7a4_45 : decode cJ6_bitCount_0f7a4 45 = .ok (.iushr, 1) := by decide +kernel
theorem dJ6_bitCount_0f7a4_46 : decode cJ6_bitCount_0f7a4 46 = .ok (.iadd, 1) := by decide +kernel
theorem dJ6_bitCount_0f7a4_47 : decode cJ6_bitCount_0f7a4 47 = .ok (.istore_n 0, 1) := by decide +kernel
theorem dJ6_bitCount_0f7a4_48 : decode cJ6_bitCount_0f7a4 48 = .ok (.iload_n 0, 1) := by decide +kernel
theorem dJ6_bitCount_0f7a4_49 : decode cJ6_bitCount_0f7a4 49 = .ok (.bipush 63, 2) := by decide +kernel
theorem dJ6_bitCount_0f7a4_51 : decode cJ6_bitCount_0f7a4 51 = .ok (.iand, 1) := by decide +kernel
theorem dJ6_bitCount_0f7a4_52 : decode cJ6_bitCount_0f7a4 52 = .ok (.ireturn, 1) := by decide +kernel
abbrev mX9_needWoman : Ym := (yX9_needWoman, cX9_needWoman, 2, none)
theorem dX9_needWoman_0 : decode cX9_needWoman 0 = .ok (.iload_n 1, 1) := by decide +kernel
theorem dX9_needWoman_1 : decode cX9_needWoman 1 = .ok (.ifCond .lt 14, 3) := by decide +kernel
theorem ta_X9_363 : ∀ w ∈ vx_atS RX9 363 "java/lang/IndexOutOfBoundsException" ["java/lang/RuntimeException", "java/lang/Exception"], w ∈ WA ∨ w = .castable "java/lang/IndexOutOfBoundsException" "java/lang/IndexOutOfBoundsException" ∨ ∃ x ∈ zDc, w = .declares x := zsubu [113, 114, 115, 122, 132, 133, 682, 683, 684, 685, 686, 687, 688, 689, 690, 691, 692, 693, 694, 695, 696, 697, 698, 699, 701, 703, 704, 706, 707, 708, 709, 710, 711, 713, 715, 720, 721, 722, 723, 724, 725, 726, 727, 728, 729, 730, 731, 732, 733, 738, 741, 746, 747, 748, 749, 750, 751, 756, 757, 758, 787, 789, 790, 791, 792, 793, 794, 796, 797, 798, 799, 800, 801, 806, 807, 808, 809, 810, 811, 816, 817, 818, 899, 900, 901, 902, 903, 904, 909, 910, 911] (by decide +kernel)
theorem wi_786 : Cond.classLink RX9 359 "java/lang/IndexOutOfBoundsException" ∈ WA := zin 786 (by decide +kernel) (by decide +kernel)
theorem wi_122 : Cond.initialized "java/lang/IndexOutOfBoundsException" ∈ WA := zin 122 (by decide +kernel) (by decide +kernel)
theorem th_X9_359_361_363 : zTi RX9 359 361 363 "java/lang/IndexOutOfBoundsException" "there is no such woman" ["java/lang/RuntimeException", "java/lang/Exception"] := ⟨by decide +kernel, by decide +kernel, wi_786, wi_122, zSR_mem (by decide +kernel), ta_X9_363, by decide +kernel, by decide +kernel, by decide⟩
theorem dX9_needWoman_15 : decode cX9_needWoman 15 = .ok (.new 359, 3) := by decide +kernel
theorem dX9_needWoman_18 : decode cX9_needWoman 18 = .ok (.dup, 1) := by decide +kernel
theorem dX9_needWoman_19 : decode cX9_needWoman 19 = .ok (.ldc_w 361, 3) := by decide +kernel
theorem dX9_needWoman_22 : decode cX9_needWoman 22 = .ok (.invokespecial 363, 3) := by decide +kernel
theorem dX9_needWoman_25 : decode cX9_needWoman 25 = .ok (.athrow, 1) := by decide +kernel
theorem dX9_needWoman_4 : decode cX9_needWoman 4 = .ok (.iload_n 1, 1) := by decide +kernel
theorem dX9_needWoman_5 : decode cX9_needWoman 5 = .ok (.aload_n 0, 1) := by decide +kernel
theorem dX9_needWoman_6 : decode cX9_needWoman 6 = .ok (.getfield 19, 3) := by decide +kernel
theorem fd_X9_19_8 : zFd RX9 19 8 1 := ⟨RX9, TX9, 13, "BorrowedLuck", rfl, by decide, uw_X9, Or.inl rfl, Or.inl wi_362⟩
theorem dX9_needWoman_9 : decode cX9_needWoman 9 = .ok (.getfield 278, 3) := by decide +kernel
theorem fd_X9_278_0 : zFd RX9 278 0 0 := ⟨RX0, TX0, 12, "BorrowedLuck$Coast", rfl, by decide, uw_X0, Or.inl rfl, Or.inr ⟨"BorrowedLuck", by decide +kernel⟩⟩
theorem dX9_needWoman_12 : decode cX9_needWoman 12 = .ok (.if_icmp .lt 14, 3) := by decide +kernel
abbrev mX9_needThing : Ym := (yX9_needThing, cX9_needThing, 2, none)
theorem dX9_needThing_0 : decode cX9_needThing 0 = .ok (.iload_n 1, 1) := by decide +kernel
theorem dX9_needThing_1 : decode cX9_needThing 1 = .ok (.ifCond .lt 14, 3) := by decide +kernel
theorem th_X9_359_364_363 : zTi RX9 359 364 363 "java/lang/IndexOutOfBoundsException" "there is no such thing" ["java/lang/RuntimeException", "java/lang/Exception"] := ⟨by decide +kernel, by decide +kernel, wi_786, wi_122, zSR_mem (by decide +kernel), ta_X9_363, by decide +kernel, by decide +kernel, by decide⟩
theorem dX9_needThing_15 : decode cX9_needThing 15 = .ok (.new 359, 3) := by decide +kernel
theorem dX9_needThing_18 : decode cX9_needThing 18 = .ok (.dup, 1) := by decide +kernel
theorem dX9_needThing_19 : decode cX9_needThing 19 = .ok (.ldc_w 364, 3) := by decide +kernel
theorem dX9_needThing_22 : decode cX9_needThing 22 = .ok (.invokespecial 363, 3) := by decide +kernel
theorem dX9_needThing_25 : decode cX9_needThing 25 = .ok (.athrow, 1) := by decide +kernel
theorem dX9_needThing_4 : decode cX9_needThing 4 = .ok (.iload_n 1, 1) := by decide +kernel
theorem dX9_needThing_5 : decode cX9_needThing 5 = .ok (.aload_n 0, 1) := by decide +kernel
theorem dX9_needThing_6 : decode cX9_needThing 6 = .ok (.getfield 19, 3) := by decide +kernel
theorem dX9_needThing_9 : decode cX9_needThing 9 = .ok (.getfield 230, 3) := by decide +kernel
theorem fd_X9_230_0 : zFd RX9 230 0 1 := ⟨RX0, TX0, 12, "BorrowedLuck$Coast", rfl, by decide, uw_X0, Or.inl rfl, Or.inr ⟨"BorrowedLuck", by decide +kernel⟩⟩
theorem dX9_needThing_12 : decode cX9_needThing 12 = .ok (.if_icmp .lt 14, 3) := by decide +kernel
def Rx (E : String) (J : Hi) : Rs → Hi → Prop := fun o K => o = .inr E ∧ K = J
theorem Rn.callWp {G : Gx} {Ga : List Shp} {Y : Ym} {kx : Kx} {d b pc pc' : Nat} {ls : List (Option Value)} {st : List Value} {I : Hi} {hh : List (Nat × Nat × Nat × Nat)} {idx n mc : Nat} {As rest : List Value} {y : Ym} {v : Option Value} {J : Hi} (hd : decode Y.2.1 pc = .ok (.invokestatic idx, 3)) (hM : zMw Y.1.cls idx y hh n)
    (hst : st = As.reverse ++ rest) (hn : As.length = n) (hr : (rest.map fun v => v.category).sum ≤ 8) (hct : CtW G Ga y hh d mc As I (Rp v J))
    (k : Rn G Ga Y kx (d + 1) b pc' ls (v.toList ++ rest) J) (hp : pc + 3 = pc' := by rfl) : Rn G Ga Y kx (d + 1) (b + mc) pc ls st I :=
  Rn.callW hd hM hst hn hr hct (fun E J h => nomatch h.1) (fun w K h => by obtain ⟨h1, h2⟩ := h; cases h1; cases h2; exact k) hp
theorem Rn.ldc_w {G : Gx} {Ga : List Shp} {Y : Ym} {kx : Kx} {d b pc pc' : Nat} {ls : List (Option Value)} {st : List Value} {I : Hi} {idx : Nat} {v : Int32} (hd : decode Y.2.1 pc = .ok (.ldc_w idx, 3)) (hw : Cond.constant Y.1.cls idx v ∈ WA) (k : Rn G Ga Y kx d b pc' ls (.int v :: st) I) (hp : pc + 3 = pc' := by rfl) : Rn G Ga Y kx d b pc ls st I := by
  subst hp
  intro p e R s m args below meth c H locs cells slots tc ts Z F hk lsA hl
  exact lv_ldcw F.1.1 F.1.2.1 F.1.2.2.2.2.2.1 (F.1.2.2.2.2.2.2.1 _ hw) hd (k p e R s m args below meth c H locs cells slots tc ts Z F hk lsA hl)
section Thr
variable (G : Gx) (d : Nat) (I : Hi)
theorem ct_noWoman0 (h0 : I 95 0 = nI 0) (w : Int32) : Ct G GAM mX10_noWoman (d + 1) 0 [.ref 94, .int w] I (Rp (some (.int (nI 1))) I) := by
  have h := ct_noWoman G d I w
  have hn : ¬ (nI 0 ≤ w ∧ w ≤ I 95 0 - nI 1) := fun q => absurd (Int32.le_trans q.1 (by have := q.2; rw [h0] at this; exact this)) (by decide)
  rw [bI_t hn] at h
  exact h
theorem ct_noThing0 (h0 : I 95 1 = nI 0) (w : Int32) : Ct G GAM mX10_noThing (d + 1) 0 [.ref 94, .int w] I (Rp (some (.int (nI 1))) I) := by
  have h := ct_noThing G d I w
  have hn : ¬ (nI 0 ≤ w ∧ w ≤ I 95 1 - nI 1) := fun q => absurd (Int32.le_trans q.1 (by have := q.2; rw [h0] at this; exact this)) (by decide)
  rw [bI_t hn] at h
  exact h
theorem ct_throws1 (c : Int32) : Ct G GAM mX10_throwsIf d 0 [.ref 94, .int (nI 1), .int c] I (Rp (some (.int (nI 1))) (zup I 94 0 c)) := by
  have h := ct_throwsIf G d I True c
  rw [bI_t trivial, if_pos trivial] at h
  exact h
theorem ct_throws0 (c : Int32) : Ct G GAM mX10_throwsIf d 0 [.ref 94, .int (nI 0), .int c] I (Rp (some (.int (nI 0))) I) := by
  have h := ct_throwsIf G d I False c
  rw [bI_f (fun q => q), if_neg (fun q => q)] at h
  exact h
theorem ct_bitCount0 : Ct G GAM mJ6_bitCount_0f7a4 d 0 [.int (nI 0)] I (Rp (some (.int (nI 0))) I) := by
  refine Ct.mk [some (.int (nI 0))] ?_
  refine Rn.iload_n dJ6_bitCount_0f7a4_0 rfl rfl ?_
  refine Rn.iload_n dJ6_bitCount_0f7a4_1 rfl rfl ?_
  refine Rn.iconst (v := (nI 1)) dJ6_bitCount_0f7a4_2 rfl ?_
  refine Rn.iushr dJ6_bitCount_0f7a4_3 ?_
  refine Rn.ldc_w dJ6_bitCount_0f7a4_4 kc_J6_265 ?_
  refine Rn.iand dJ6_bitCount_0f7a4_7 ?_
  refine Rn.isub dJ6_bitCount_0f7a4_8 ?_
  refine Rn.istore_n dJ6_bitCount_0f7a4_9 rfl (by decide) ?_
  refine Rn.iload_n dJ6_bitCount_0f7a4_10 rfl rfl ?_
  refine Rn.ldc_w dJ6_bitCount_0f7a4_11 kc_J6_266 ?_
  refine Rn.iand dJ6_bitCount_0f7a4_14 ?_
  refine Rn.iload_n dJ6_bitCount_0f7a4_15 rfl rfl ?_
  refine Rn.iconst (v := (nI 2)) dJ6_bitCount_0f7a4_16 rfl ?_
  refine Rn.iushr dJ6_bitCount_0f7a4_17 ?_
  refine Rn.ldc_w dJ6_bitCount_0f7a4_18 kc_J6_266 ?_
  refine Rn.iand dJ6_bitCount_0f7a4_21 ?_
  refine Rn.iadd dJ6_bitCount_0f7a4_22 ?_
  refine Rn.istore_n dJ6_bitCount_0f7a4_23 rfl (by decide) ?_
  refine Rn.iload_n dJ6_bitCount_0f7a4_24 rfl rfl ?_
  refine Rn.iload_n dJ6_bitCount_0f7a4_25 rfl rfl ?_
  refine Rn.iconst (v := (nI 4)) dJ6_bitCount_0f7a4_26 rfl ?_
  refine Rn.iushr dJ6_bitCount_0f7a4_27 ?_
  refine Rn.iadd dJ6_bitCount_0f7a4_28 ?_
  refine Rn.ldc_w dJ6_bitCount_0f7a4_29 kc_J6_267 ?_
  refine Rn.iand dJ6_bitCount_0f7a4_32 ?_
  refine Rn.istore_n dJ6_bitCount_0f7a4_33 rfl (by decide) ?_
  refine Rn.iload_n dJ6_bitCount_0f7a4_34 rfl rfl ?_
  refine Rn.iload_n dJ6_bitCount_0f7a4_35 rfl rfl ?_
  refine Rn.bipush (v := (nI 8)) dJ6_bitCount_0f7a4_36 rfl ?_
  refine Rn.iushr dJ6_bitCount_0f7a4_38 ?_
  refine Rn.iadd dJ6_bitCount_0f7a4_39 ?_
  refine Rn.istore_n dJ6_bitCount_0f7a4_40 rfl (by decide) ?_
  refine Rn.iload_n dJ6_bitCount_0f7a4_41 rfl rfl ?_
  refine Rn.iload_n dJ6_bitCount_0f7a4_42 rfl rfl ?_
  refine Rn.bipush (v := (nI 16)) dJ6_bitCount_0f7a4_43 rfl ?_
  refine Rn.iushr dJ6_bitCount_0f7a4_45 ?_
  refine Rn.iadd dJ6_bitCount_0f7a4_46 ?_
  refine Rn.istore_n dJ6_bitCount_0f7a4_47 rfl (by decide) ?_
  refine Rn.iload_n dJ6_bitCount_0f7a4_48 rfl rfl ?_
  refine Rn.bipush (v := (nI 63)) dJ6_bitCount_0f7a4_49 rfl ?_
  refine Rn.iand dJ6_bitCount_0f7a4_51 ?_
  exact Rn.iret dJ6_bitCount_0f7a4_52 rfl (⟨by decide, rfl⟩)
theorem ct_needWoman0 (h0 : I 3 0 = nI 0) (x : Int32) : Ct G GAM mX9_needWoman d 1 [.ref 0, .int x] I (Rx "java/lang/IndexOutOfBoundsException" I) := by
  refine Ct.mk [some (.ref 0), some (.int x)] ?_
  refine Rn.iload_n dX9_needWoman_0 rfl rfl ?_
  refine Rn.if_lt (tgt := 15) dX9_needWoman_1 (by decide) (fun h1 => ?_) (fun h1 => ?_)
  · exact Rn.throwTW th_X9_359_361_363 dX9_needWoman_15 dX9_needWoman_18 dX9_needWoman_19 dX9_needWoman_22 dX9_needWoman_25 (⟨rfl, rfl⟩)
  · refine Rn.iload_n dX9_needWoman_4 rfl rfl ?_
    refine Rn.aload_n dX9_needWoman_5 rfl rfl ?_
    refine Rn.getR dX9_needWoman_6 fd_X9_19_8 (by first | rfl | exact gC0 (by assumption) | exact gL0 (by assumption)) rfl ?_
    refine Rn.getI dX9_needWoman_9 fd_X9_278_0 (by first | rfl | exact gC0 (by assumption) | exact gL0 (by assumption)) rfl ?_
    refine Rn.topI (nI 0) h0 ?_
    refine Rn.icmp_lt (tgt := 26) dX9_needWoman_12 (by decide) (fun h9 => by exfalso; exact h1 h9) (fun _ => ?_)
    exact Rn.throwTW th_X9_359_361_363 dX9_needWoman_15 dX9_needWoman_18 dX9_needWoman_19 dX9_needWoman_22 dX9_needWoman_25 (⟨rfl, rfl⟩)
theorem ct_needThing0 (h0 : I 3 1 = nI 0) (x : Int32) : Ct G GAM mX9_needThing d 1 [.ref 0, .int x] I (Rx "java/lang/IndexOutOfBoundsException" I) := by
  refine Ct.mk [some (.ref 0), some (.int x)] ?_
  refine Rn.iload_n dX9_needThing_0 rfl rfl ?_
  refine Rn.if_lt (tgt := 15) dX9_needThing_1 (by decide) (fun h1 => ?_) (fun h1 => ?_)
  · exact Rn.throwTW th_X9_359_364_363 dX9_needThing_15 dX9_needThing_18 dX9_needThing_19 dX9_needThing_22 dX9_needThing_25 (⟨rfl, rfl⟩)
  · refine Rn.iload_n dX9_needThing_4 rfl rfl ?_
    refine Rn.aload_n dX9_needThing_5 rfl rfl ?_
    refine Rn.getR dX9_needThing_6 fd_X9_19_8 (by first | rfl | exact gC0 (by assumption) | exact gL0 (by assumption)) rfl ?_
    refine Rn.getI dX9_needThing_9 fd_X9_230_0 (by first | rfl | exact gC0 (by assumption) | exact gL0 (by assumption)) rfl ?_
    refine Rn.topI (nI 0) h0 ?_
    refine Rn.icmp_lt (tgt := 26) dX9_needThing_12 (by decide) (fun h9 => by exfalso; exact h1 h9) (fun _ => ?_)
    exact Rn.throwTW th_X9_359_364_363 dX9_needThing_15 dX9_needThing_18 dX9_needThing_19 dX9_needThing_22 dX9_needThing_25 (⟨rfl, rfl⟩)
theorem i3_0 : I0 3 0 = nI 0 := by decide +kernel
theorem i3_1 : I0 3 1 = nI 0 := by decide +kernel
theorem i95_0 : I0 95 0 = nI 0 := by decide +kernel
theorem i95_1 : I0 95 1 = nI 0 := by decide +kernel
end Thr
