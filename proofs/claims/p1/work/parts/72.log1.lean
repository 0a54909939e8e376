theorem ta_X9_155 : ∀ w ∈ (nAt RX9 155 "java/util/NoSuchElementException" "java/lang/RuntimeException" ["java/lang/Exception"]).filter vx_no, w ∈ WA ∨ w = .castable "java/util/NoSuchElementException" "java/util/NoSuchElementException" ∨ ∃ x ∈ zDc, w = .declares x := zsubu [113, 114, 115, 123, 132, 133, 682, 683, 684, 685, 686, 687, 688, 689, 690, 691, 692, 693, 694, 695, 696, 697, 698, 699, 701, 703, 704, 706, 707, 708, 709, 710, 711, 713, 715, 720, 721, 722, 723, 724, 725, 726, 727, 728, 729, 730, 731, 732, 733, 738, 741, 746, 747, 748, 749, 750, 751, 756, 757, 758, 789, 790, 791, 792, 793, 794, 799, 800, 801, 804, 806, 807, 808, 809, 810, 811, 813, 814, 815, 816, 817, 818, 899, 900, 901, 902, 903, 904, 909, 910, 911] (by decide +kernel)
theorem wi_803 : Cond.classLink RX9 151 "java/util/NoSuchElementException" ∈ WA := zin 803 (by decide +kernel) (by decide +kernel)
theorem wi_123 : Cond.initialized "java/util/NoSuchElementException" ∈ WA := zin 123 (by decide +kernel) (by decide +kernel)
theorem th_X9_151_336_155 : zTn RX9 151 336 155 "java/util/NoSuchElementException" "java/lang/RuntimeException" "a row has no such number" ["java/lang/Exception"] := ⟨by decide +kernel, by decide +kernel, by decide +kernel, wi_803, wi_123, zSR_mem (by decide +kernel), ta_X9_155, by decide +kernel, by decide +kernel, by decide⟩
theorem dX9_log_9 : decode cX9_log 9 = .ok (.new 151, 3) := by decide +kernel
theorem dX9_log_12 : decode cX9_log 12 = .ok (.dup, 1) := by decide +kernel
theorem dX9_log_13 : decode cX9_log 13 = .ok (.ldc_w 336, 3) := by decide +kernel
theorem dX9_log_16 : decode cX9_log 16 = .ok (.invokespecial 155, 3) := by decide +kernel
theorem dX9_log_19 : decode cX9_log 19 = .ok (.athrow, 1) := by decide +kernel
theorem wi_777 : Cond.classLink RL 26 "java/util/NoSuchElementException" ∈ WA := zin 777 (by decide +kernel) (by decide +kernel)
theorem dL_log_13 : decode cL_log 13 = .ok (.astore 4, 2) := by decide +kernel
theorem dL_log_15 : decode cL_log 15 = .ok (.iconst 1, 1) := by decide +kernel
theorem dL_log_16 : decode cL_log 16 = .ok (.ireturn, 1) := by decide +kernel
section Log1
variable (G : Gx) (d : Nat) (I : Hi)
theorem ct_X9_log1 (x y : Int32) (h : ¬ (¬ y < 0 ∧ y < nI 4)) : Ct G GAM mX9_log d 1 [.ref 0, .int x, .int y] I (Rx "java/util/NoSuchElementException" I) := by
  refine Ct.mk [some (.ref 0), some (.int x), some (.int y)] ?_
  refine Rn.iload_n dX9_log_0 rfl rfl ?_
  refine Rn.if_lt (tgt := 9) dX9_log_1 (by decide) (fun h1 => ?_) (fun h1 => ?_)
  · exact Rn.throwN th_X9_151_336_155 dX9_log_9 dX9_log_12 dX9_log_13 dX9_log_16 dX9_log_19 (⟨rfl, rfl⟩)
  · refine Rn.iload_n dX9_log_4 rfl rfl ?_
    refine Rn.iconst (v := (nI 4)) dX9_log_5 rfl ?_
    refine Rn.icmp_lt (tgt := 20) dX9_log_6 (by decide) (fun h9 => by exfalso; exact h ⟨h1, h9⟩) (fun _ => ?_)
    exact Rn.throwN th_X9_151_336_155 dX9_log_9 dX9_log_12 dX9_log_13 dX9_log_16 dX9_log_19 (⟨rfl, rfl⟩)
theorem cwt_log (p0 : Int32) (p1 : Int32) (hc : Ct G GAM mX9_log d 1 [.ref 0, .int p0, .int p1] I0 (Rx "java/util/NoSuchElementException" I0)) : CtW G GAM mL_log [(0, 10, 13, 26)] (d + 1) 1 [.ref 0, .int p0, .int p1, .ref 107] I0 (Rp (some (.int (nI 1))) I0) := by
  refine CtW.mk [some (.ref 0), some (.int p0), some (.int p1), some (.ref 107), none] ?_
  refine Rn.aload_n dL_log_0 rfl rfl ?_
  refine Rn.iconst (v := (nI 0)) dL_log_1 rfl ?_
  refine Rn.aload_n dL_log_2 rfl rfl ?_
  refine Rn.iload_n dL_log_3 rfl rfl ?_
  refine Rn.iload_n dL_log_4 rfl rfl ?_
  refine Rn.callVx (b := 0) (mc := 1) (As := [_, _]) dL_log_5 mv_L_123 (by first | rfl | exact gC0 (by assumption) | exact gL0 (by assumption)) rfl rfl rfl (Nat.le_of_ble_eq_true rfl) hc (fun E J h => ?_) (fun _ _ h => nomatch h.1)
  obtain ⟨h1, h2⟩ := h
  cases h1
  subst h2
  exact zcatch (x := (0, 10, 13, 26)) (hs := []) (i := 4) (n2 := 2) rfl wi_777 (by decide) (by decide) (Or.inr ⟨dL_log_13, rfl⟩) (by decide) dL_log_15 rfl dL_log_16 rfl ⟨rfl, rfl⟩
end Log1
