theorem dX10_isAt_0 : decode cX10_isAt 0 = .ok (.aload_n 0, 1) := by decide +kernel
theorem dX10_isAt_1 : decode cX10_isAt 1 = .ok (.getfield 89, 3) := by decide +kernel
theorem dX10_isAt_4 : decode cX10_isAt 4 = .ok (.aload_n 0, 1) := by decide +kernel
theorem dX10_isAt_5 : decode cX10_isAt 5 = .ok (.getfield 92, 3) := by decide +kernel
theorem dX10_isAt_8 : decode cX10_isAt 8 = .ok (.if_icmp .ge 33, 3) := by decide +kernel
theorem dX10_isAt_41 : decode cX10_isAt 41 = .ok (.iconst 0, 1) := by decide +kernel
theorem dX10_isAt_42 : decode cX10_isAt 42 = .ok (.ireturn, 1) := by decide +kernel
theorem dX10_isAt_11 : decode cX10_isAt 11 = .ok (.aload_n 0, 1) := by decide +kernel
theorem dX10_isAt_12 : decode cX10_isAt 12 = .ok (.getfield 29, 3) := by decide +kernel
theorem dX10_isAt_15 : decode cX10_isAt 15 = .ok (.aload_n 0, 1) := by decide +kernel
theorem dX10_isAt_16 : decode cX10_isAt 16 = .ok (.getfield 89, 3) := by decide +kernel
theorem dX10_isAt_19 : decode cX10_isAt 19 = .ok (.baload, 1) := by decide +kernel
theorem dX10_isAt_20 : decode cX10_isAt 20 = .ok (.iload_n 1, 1) := by decide +kernel
theorem dX10_isAt_21 : decode cX10_isAt 21 = .ok (.if_icmp .lt 20, 3) := by decide +kernel
theorem dX10_isAt_24 : decode cX10_isAt 24 = .ok (.aload_n 0, 1) := by decide +kernel
theorem dX10_isAt_25 : decode cX10_isAt 25 = .ok (.getfield 29, 3) := by decide +kernel
theorem dX10_isAt_28 : decode cX10_isAt 28 = .ok (.aload_n 0, 1) := by decide +kernel
theorem dX10_isAt_29 : decode cX10_isAt 29 = .ok (.getfield 89, 3) := by decide +kernel
theorem dX10_isAt_32 : decode cX10_isAt 32 = .ok (.baload, 1) := by decide +kernel
theorem dX10_isAt_33 : decode cX10_isAt 33 = .ok (.iload_n 2, 1) := by decide +kernel
theorem dX10_isAt_34 : decode cX10_isAt 34 = .ok (.if_icmp .gt 7, 3) := by decide +kernel
theorem dX10_isAt_37 : decode cX10_isAt 37 = .ok (.iconst 1, 1) := by decide +kernel
theorem dX10_isAt_38 : decode cX10_isAt 38 = .ok (.goto 4, 3) := by decide +kernel
theorem dX10_blanks_0 : decode cX10_blanks 0 = .ok (.aload_n 0, 1) := by decide +kernel
theorem dX10_blanks_1 : decode cX10_blanks 1 = .ok (.bipush 32, 2) := by decide +kernel
theorem dX10_blanks_3 : decode cX10_blanks 3 = .ok (.bipush 32, 2) := by decide +kernel
theorem dX10_blanks_5 : decode cX10_blanks 5 = .ok (.invokevirtual 95, 3) := by decide +kernel
theorem dX10_blanks_8 : decode cX10_blanks 8 = .ok (.ifCond .eq 16, 3) := by decide +kernel
theorem dX10_blanks_11 : decode cX10_blanks 11 = .ok (.aload_n 0, 1) := by decide +kernel
theorem dX10_blanks_12 : decode cX10_blanks 12 = .ok (.dup, 1) := by decide +kernel
theorem dX10_blanks_13 : decode cX10_blanks 13 = .ok (.getfield 89, 3) := by decide +kernel
theorem dX10_blanks_16 : decode cX10_blanks 16 = .ok (.iconst 1, 1) := by decide +kernel
theorem dX10_blanks_17 : decode cX10_blanks 17 = .ok (.iadd, 1) := by decide +kernel
theorem dX10_blanks_18 : decode cX10_blanks 18 = .ok (.putfield 89, 3) := by decide +kernel
theorem dX10_blanks_21 : decode cX10_blanks 21 = .ok (.goto (-21), 3) := by decide +kernel
theorem dX10_blanks_24 : decode cX10_blanks 24 = .ok (.aload_n 0, 1) := by decide +kernel
theorem dX10_blanks_25 : decode cX10_blanks 25 = .ok (.aload_n 0, 1) := by decide +kernel
theorem dX10_blanks_26 : decode cX10_blanks 26 = .ok (.getfield 89, 3) := by decide +kernel
theorem dX10_blanks_29 : decode cX10_blanks 29 = .ok (.putfield 99, 3) := by decide +kernel
theorem dX10_blanks_32 : decode cX10_blanks 32 = .ok (.return_, 1) := by decide +kernel
theorem dX10_letters_4 : decode cX10_letters 4 = .ok (.aload_n 0, 1) := by decide +kernel
theorem dX10_letters_5 : decode cX10_letters 5 = .ok (.bipush 97, 2) := by decide +kernel
theorem dX10_letters_7 : decode cX10_letters 7 = .ok (.bipush 122, 2) := by decide +kernel
theorem dX10_letters_9 : decode cX10_letters 9 = .ok (.invokevirtual 95, 3) := by decide +kernel
theorem dX10_letters_12 : decode cX10_letters 12 = .ok (.ifCond .eq 16, 3) := by decide +kernel
theorem dX10_letters_15 : decode cX10_letters 15 = .ok (.aload_n 0, 1) := by decide +kernel
theorem dX10_letters_16 : decode cX10_letters 16 = .ok (.dup, 1) := by decide +kernel
theorem dX10_letters_17 : decode cX10_letters 17 = .ok (.getfield 89, 3) := by decide +kernel
theorem dX10_letters_20 : decode cX10_letters 20 = .ok (.iconst 1, 1) := by decide +kernel
theorem dX10_letters_21 : decode cX10_letters 21 = .ok (.iadd, 1) := by decide +kernel
theorem dX10_letters_22 : decode cX10_letters 22 = .ok (.putfield 89, 3) := by decide +kernel
theorem dX10_letters_25 : decode cX10_letters 25 = .ok (.goto (-21), 3) := by decide +kernel
theorem dX10_letters_0 : decode cX10_letters 0 = .ok (.aload_n 0, 1) := by decide +kernel
theorem dX10_letters_1 : decode cX10_letters 1 = .ok (.invokevirtual 102, 3) := by decide +kernel
theorem dX10_letters_28 : decode cX10_letters 28 = .ok (.return_, 1) := by decide +kernel
theorem dX10_isWord_24 : decode cX10_isWord 24 = .ok (.iload_n 2, 1) := by decide +kernel
theorem dX10_isWord_25 : decode cX10_isWord 25 = .ok (.ifCond .eq 42, 3) := by decide +kernel
theorem dX10_isWord_28 : decode cX10_isWord 28 = .ok (.iload_n 3, 1) := by decide +kernel
theorem dX10_isWord_29 : decode cX10_isWord 29 = .ok (.aload_n 1, 1) := by decide +kernel
theorem dX10_isWord_30 : decode cX10_isWord 30 = .ok (.invokevirtual 105, 3) := by decide +kernel
theorem wi_1390 : Cond.methodLink RX10 105 yJ0_length_8abf5 ∈ WA := zin 1390 (by decide +kernel) (by decide +kernel)
theorem wi_1393 : Cond.code yJ0_length_8abf5 cJ0_length_8abf5 1 (some .int) ∈ WA := zin 1393 (by decide +kernel) (by decide +kernel)
theorem wi_1391 : Cond.instanceMethod yJ0_length_8abf5 ∈ WA := zin 1391 (by decide +kernel) (by decide +kernel)
theorem wi_1392 : Cond.selects RJ0 yJ0_length_8abf5 yJ0_length_8abf5 ∈ WA := zin 1392 (by decide +kernel) (by decide +kernel)
theorem mv_X10_105 : zMv RX10 105 RJ0 mJ0_length_8abf5 0 := ⟨⟨wi_1390, wi_118, wi_1393, by decide, by decide +kernel⟩, wi_1391, wi_1392⟩
theorem dX10_isWord_33 : decode cX10_isWord 33 = .ok (.if_icmp .ge 34, 3) := by decide +kernel
theorem dX10_isWord_36 : decode cX10_isWord 36 = .ok (.aload_n 0, 1) := by decide +kernel
theorem dX10_isWord_37 : decode cX10_isWord 37 = .ok (.getfield 29, 3) := by decide +kernel
theorem dX10_isWord_40 : decode cX10_isWord 40 = .ok (.aload_n 0, 1) := by decide +kernel
theorem dX10_isWord_41 : decode cX10_isWord 41 = .ok (.getfield 99, 3) := by decide +kernel
theorem dX10_isWord_44 : decode cX10_isWord 44 = .ok (.iload_n 3, 1) := by decide +kernel
theorem dX10_isWord_45 : decode cX10_isWord 45 = .ok (.iadd, 1) := by decide +kernel
theorem dX10_isWord_46 : decode cX10_isWord 46 = .ok (.baload, 1) := by decide +kernel
theorem dX10_isWord_47 : decode cX10_isWord 47 = .ok (.aload_n 1, 1) := by decide +kernel
theorem dX10_isWord_48 : decode cX10_isWord 48 = .ok (.iload_n 3, 1) := by decide +kernel
theorem dX10_isWord_49 : decode cX10_isWord 49 = .ok (.invokevirtual 110, 3) := by decide +kernel
theorem wi_1400 : Cond.methodLink RX10 110 yJ0_charAt_5068e ∈ WA := zin 1400 (by decide +kernel) (by decide +kernel)
theorem wi_1403 : Cond.code yJ0_charAt_5068e cJ0_charAt_5068e 2 (some .char) ∈ WA := zin 1403 (by decide +kernel) (by decide +kernel)
theorem wi_1401 : Cond.instanceMethod yJ0_charAt_5068e ∈ WA := zin 1401 (by decide +kernel) (by decide +kernel)
theorem wi_1402 : Cond.selects RJ0 yJ0_charAt_5068e yJ0_charAt_5068e ∈ WA := zin 1402 (by decide +kernel) (by decide +kernel)
theorem mv_X10_110 : zMv RX10 110 RJ0 mJ0_charAt_5068e 1 := ⟨⟨wi_1400, wi_118, wi_1403, by decide, by decide +kernel⟩, wi_1401, wi_1402⟩
theorem dX10_isWord_52 : decode cX10_isWord 52 = .ok (.if_icmp .ne 7, 3) := by decide +kernel
theorem dX10_isWord_59 : decode cX10_isWord 59 = .ok (.iconst 0, 1) := by decide +kernel
theorem dX10_isWord_60 : decode cX10_isWord 60 = .ok (.istore_n 2, 1) := by decide +kernel
theorem dX10_isWord_61 : decode cX10_isWord 61 = .ok (.iinc 3 1, 3) := by decide +kernel
theorem dX10_isWord_64 : decode cX10_isWord 64 = .ok (.goto (-40), 3) := by decide +kernel
theorem dX10_isWord_55 : decode cX10_isWord 55 = .ok (.iconst 1, 1) := by decide +kernel
theorem dX10_isWord_56 : decode cX10_isWord 56 = .ok (.goto 4, 3) := by decide +kernel
theorem dX10_isWord_0 : decode cX10_isWord 0 = .ok (.aload_n 0, 1) := by decide +kernel
theorem dX10_isWord_1 : decode cX10_isWord 1 = .ok (.getfield 89, 3) := by decide +kernel
theorem dX10_isWord_4 : decode cX10_isWord 4 = .ok (.aload_n 0, 1) := by decide +kernel
theorem dX10_isWord_5 : decode cX10_isWord 5 = .ok (.getfield 99, 3) := by decide +kernel
theorem dX10_isWord_8 : decode cX10_isWord 8 = .ok (.isub, 1) := by decide +kernel
theorem dX10_isWord_9 : decode cX10_isWord 9 = .ok (.aload_n 1, 1) := by decide +kernel
theorem dX10_isWord_10 : decode cX10_isWord 10 = .ok (.invokevirtual 105, 3) := by decide +kernel
theorem dX10_isWord_13 : decode cX10_isWord 13 = .ok (.if_icmp .ne 7, 3) := by decide +kernel
theorem dX10_isWord_20 : decode cX10_isWord 20 = .ok (.iconst 0, 1) := by decide +kernel
theorem dX10_isWord_21 : decode cX10_isWord 21 = .ok (.istore_n 2, 1) := by decide +kernel
theorem dX10_isWord_22 : decode cX10_isWord 22 = .ok (.iconst 0, 1) := by decide +kernel
theorem dX10_isWord_23 : decode cX10_isWord 23 = .ok (.istore_n 3, 1) := by decide +kernel
theorem dX10_isWord_67 : decode cX10_isWord 67 = .ok (.iload_n 2, 1) := by decide +kernel
theorem dX10_isWord_68 : decode cX10_isWord 68 = .ok (.ireturn, 1) := by decide +kernel
theorem dX10_isWord_16 : decode cX10_isWord 16 = .ok (.iconst 1, 1) := by decide +kernel
theorem dX10_isWord_17 : decode cX10_isWord 17 = .ok (.goto 4, 3) := by decide +kernel
theorem dX10_sign_0 : decode cX10_sign 0 = .ok (.aload_n 0, 1) := by decide +kernel
theorem dX10_sign_1 : decode cX10_sign 1 = .ok (.invokevirtual 102, 3) := by decide +kernel
theorem dX10_sign_4 : decode cX10_sign 4 = .ok (.aload_n 0, 1) := by decide +kernel
theorem dX10_sign_5 : decode cX10_sign 5 = .ok (.iload_n 1, 1) := by decide +kernel
theorem dX10_sign_6 : decode cX10_sign 6 = .ok (.iload_n 1, 1) := by decide +kernel
theorem dX10_sign_7 : decode cX10_sign 7 = .ok (.invokevirtual 95, 3) := by decide +kernel
theorem dX10_sign_10 : decode cX10_sign 10 = .ok (.ifCond .ne 5, 3) := by decide +kernel
theorem dX10_sign_13 : decode cX10_sign 13 = .ok (.iconst 0, 1) := by decide +kernel
theorem dX10_sign_14 : decode cX10_sign 14 = .ok (.ireturn, 1) := by decide +kernel
theorem dX10_sign_15 : decode cX10_sign 15 = .ok (.aload_n 0, 1) := by decide +kernel
theorem dX10_sign_16 : decode cX10_sign 16 = .ok (.dup, 1) := by decide +kernel
theorem dX10_sign_17 : decode cX10_sign 17 = .ok (.getfield 89, 3) := by decide +kernel
theorem dX10_sign_20 : decode cX10_sign 20 = .ok (.iconst 1, 1) := by decide +kernel
theorem dX10_sign_21 : decode cX10_sign 21 = .ok (.iadd, 1) := by decide +kernel
theorem dX10_sign_22 : decode cX10_sign 22 = .ok (.putfield 89, 3) := by decide +kernel
theorem dX10_sign_25 : decode cX10_sign 25 = .ok (.iconst 1, 1) := by decide +kernel
theorem dX10_sign_26 : decode cX10_sign 26 = .ok (.ireturn, 1) := by decide +kernel
theorem dX10_passes_0 : decode cX10_passes 0 = .ok (.aload_n 0, 1) := by decide +kernel
theorem dX10_passes_1 : decode cX10_passes 1 = .ok (.invokevirtual 114, 3) := by decide +kernel
theorem dX10_passes_4 : decode cX10_passes 4 = .ok (.aload_n 0, 1) := by decide +kernel
theorem dX10_passes_5 : decode cX10_passes 5 = .ok (.aload_n 1, 1) := by decide +kernel
theorem dX10_passes_6 : decode cX10_passes 6 = .ok (.invokevirtual 117, 3) := by decide +kernel
theorem dX10_passes_9 : decode cX10_passes 9 = .ok (.ifCond .eq 5, 3) := by decide +kernel
theorem dX10_passes_14 : decode cX10_passes 14 = .ok (.aload_n 0, 1) := by decide +kernel
theorem dX10_passes_15 : decode cX10_passes 15 = .ok (.aload_n 0, 1) := by decide +kernel
theorem dX10_passes_16 : decode cX10_passes 16 = .ok (.getfield 99, 3) := by decide +kernel
theorem dX10_passes_19 : decode cX10_passes 19 = .ok (.putfield 89, 3) := by decide +kernel
theorem dX10_passes_22 : decode cX10_passes 22 = .ok (.iconst 0, 1) := by decide +kernel
theorem dX10_passes_23 : decode cX10_passes 23 = .ok (.ireturn, 1) := by decide +kernel
theorem dX10_passes_12 : decode cX10_passes 12 = .ok (.iconst 1, 1) := by decide +kernel
theorem dX10_passes_13 : decode cX10_passes 13 = .ok (.ireturn, 1) := by decide +kernel
theorem dX10_number_6 : decode cX10_number 6 = .ok (.aload_n 0, 1) := by decide +kernel
theorem dX10_number_7 : decode cX10_number 7 = .ok (.bipush 48, 2) := by decide +kernel
theorem dX10_number_9 : decode cX10_number 9 = .ok (.bipush 57, 2) := by decide +kernel
theorem dX10_number_11 : decode cX10_number 11 = .ok (.invokevirtual 95, 3) := by decide +kernel
theorem dX10_number_14 : decode cX10_number 14 = .ok (.ifCond .eq 51, 3) := by decide +kernel
theorem dX10_number_17 : decode cX10_number 17 = .ok (.aload_n 0, 1) := by decide +kernel
theorem dX10_number_18 : decode cX10_number 18 = .ok (.getfield 89, 3) := by decide +kernel
theorem dX10_number_21 : decode cX10_number 21 = .ok (.aload_n 0, 1) := by decide +kernel
theorem dX10_number_22 : decode cX10_number 22 = .ok (.getfield 99, 3) := by decide +kernel
theorem dX10_number_25 : decode cX10_number 25 = .ok (.isub, 1) := by decide +kernel
theorem dX10_number_26 : decode cX10_number 26 = .ok (.iconst 3, 1) := by decide +kernel
theorem dX10_number_27 : decode cX10_number 27 = .ok (.if_icmp .ge 23, 3) := by decide +kernel
theorem dX10_number_50 : decode cX10_number 50 = .ok (.iload_n 3, 1) := by decide +kernel
theorem dX10_number_51 : decode cX10_number 51 = .ok (.istore_n 3, 1) := by decide +kernel
theorem dX10_number_52 : decode cX10_number 52 = .ok (.aload_n 0, 1) := by decide +kernel
theorem dX10_number_53 : decode cX10_number 53 = .ok (.dup, 1) := by decide +kernel
theorem dX10_number_54 : decode cX10_number 54 = .ok (.getfield 89, 3) := by decide +kernel
theorem dX10_number_57 : decode cX10_number 57 = .ok (.iconst 1, 1) := by decide +kernel
theorem dX10_number_58 : decode cX10_number 58 = .ok (.iadd, 1) := by decide +kernel
theorem dX10_number_59 : decode cX10_number 59 = .ok (.putfield 89, 3) := by decide +kernel
theorem dX10_number_62 : decode cX10_number 62 = .ok (.goto (-56), 3) := by decide +kernel
theorem dX10_number_30 : decode cX10_number 30 = .ok (.bipush 10, 2) := by decide +kernel
theorem dX10_number_32 : decode cX10_number 32 = .ok (.iload_n 3, 1) := by decide +kernel
theorem dX10_number_33 : decode cX10_number 33 = .ok (.imul, 1) := by decide +kernel
theorem dX10_number_34 : decode cX10_number 34 = .ok (.aload_n 0, 1) := by decide +kernel
theorem dX10_number_35 : decode cX10_number 35 = .ok (.getfield 29, 3) := by decide +kernel
theorem dX10_number_38 : decode cX10_number 38 = .ok (.aload_n 0, 1) := by decide +kernel
theorem dX10_number_39 : decode cX10_number 39 = .ok (.getfield 89, 3) := by decide +kernel
theorem dX10_number_42 : decode cX10_number 42 = .ok (.baload, 1) := by decide +kernel
theorem dX10_number_43 : decode cX10_number 43 = .ok (.iadd, 1) := by decide +kernel
theorem dX10_number_44 : decode cX10_number 44 = .ok (.bipush 48, 2) := by decide +kernel
theorem dX10_number_46 : decode cX10_number 46 = .ok (.isub, 1) := by decide +kernel
theorem dX10_number_47 : decode cX10_number 47 = .ok (.goto 4, 3) := by decide +kernel
theorem dX10_number_0 : decode cX10_number 0 = .ok (.aload_n 0, 1) := by decide +kernel
theorem dX10_number_1 : decode cX10_number 1 = .ok (.invokevirtual 102, 3) := by decide +kernel
theorem dX10_number_4 : decode cX10_number 4 = .ok (.iconst 0, 1) := by decide +kernel
theorem dX10_number_5 : decode cX10_number 5 = .ok (.istore_n 3, 1) := by decide +kernel
theorem dX10_number_65 : decode cX10_number 65 = .ok (.aload_n 0, 1) := by decide +kernel
theorem dX10_number_66 : decode cX10_number 66 = .ok (.getfield 89, 3) := by decide +kernel
theorem dX10_number_69 : decode cX10_number 69 = .ok (.aload_n 0, 1) := by decide +kernel
theorem dX10_number_70 : decode cX10_number 70 = .ok (.getfield 99, 3) := by decide +kernel
theorem dX10_number_73 : decode cX10_number 73 = .ok (.if_icmp .eq 26, 3) := by decide +kernel
theorem dX10_number_99 : decode cX10_number 99 = .ok (.iconst (-1), 1) := by decide +kernel
theorem dX10_number_100 : decode cX10_number 100 = .ok (.goto 4, 3) := by decide +kernel
theorem dX10_number_104 : decode cX10_number 104 = .ok (.ireturn, 1) := by decide +kernel
theorem dX10_number_76 : decode cX10_number 76 = .ok (.aload_n 0, 1) := by decide +kernel
theorem dX10_number_77 : decode cX10_number 77 = .ok (.getfield 89, 3) := by decide +kernel
theorem dX10_number_80 : decode cX10_number 80 = .ok (.aload_n 0, 1) := by decide +kernel
theorem dX10_number_81 : decode cX10_number 81 = .ok (.getfield 99, 3) := by decide +kernel
theorem dX10_number_84 : decode cX10_number 84 = .ok (.isub, 1) := by decide +kernel
theorem dX10_number_85 : decode cX10_number 85 = .ok (.iconst 3, 1) := by decide +kernel
theorem dX10_number_86 : decode cX10_number 86 = .ok (.if_icmp .gt 13, 3) := by decide +kernel
theorem dX10_number_89 : decode cX10_number 89 = .ok (.iload_n 3, 1) := by decide +kernel
theorem dX10_number_90 : decode cX10_number 90 = .ok (.iload_n 1, 1) := by decide +kernel
theorem dX10_number_91 : decode cX10_number 91 = .ok (.if_icmp .lt 8, 3) := by decide +kernel
theorem dX10_number_94 : decode cX10_number 94 = .ok (.iload_n 3, 1) := by decide +kernel
theorem dX10_number_95 : decode cX10_number 95 = .ok (.iload_n 2, 1) := by decide +kernel
theorem dX10_number_96 : decode cX10_number 96 = .ok (.if_icmp .le 7, 3) := by decide +kernel
theorem dX10_number_103 : decode cX10_number 103 = .ok (.iload_n 3, 1) := by decide +kernel
/-! the reference's reader: signs, words and numbers -/
theorem zup2 (I : Hi) (a j : Nat) (x y : Int32) : zup (zup I a j x) a j y = zup I a j y := by
  funext k q
  simp only [zup, zset]
  by_cases e : k = a
  · subst e
    simp only [if_true, upd]
    by_cases e2 : q = j
    · rw [if_pos e2, if_pos e2]
    · rw [if_neg e2, if_neg e2, if_neg e2]
  · rw [if_neg e, if_neg e, if_neg e]
theorem zupC (I : Hi) (a : Nat) {i j : Nat} (x y : Int32) (h : i ≠ j) : zup (zup I a i x) a j y = zup (zup I a j y) a i x := by
  funext k q
  simp only [zup, zset]
  by_cases e : k = a
  · subst e
    simp only [if_true, upd]
    by_cases e2 : q = j
    · rw [if_pos e2, if_neg (fun z => h (z.symm.trans e2)), if_pos e2]
    · rw [if_neg e2]
      by_cases e3 : q = i
      · rw [if_pos e3, if_pos e3]
      · rw [if_neg e3, if_neg e3, if_neg e2]
  · rw [if_neg e, if_neg e, if_neg e, if_neg e]
def PB (I : Hi) (p b : Nat) : Hi := zup (zup I 94 10 (nI p)) 94 12 (nI b)
theorem PB_10 (I : Hi) (p b x : Nat) : zup (PB I p b) 94 10 (nI x) = PB I x b := by
  unfold PB
  rw [zupC _ _ _ _ (show (12 : Nat) ≠ 10 by decide), zup2]
theorem PB_12 (I : Hi) (p b x : Nat) : zup (PB I p b) 94 12 (nI x) = PB I p x := by
  unfold PB
  rw [zup2]
theorem PB_PB (I : Hi) (p b x y : Nat) : PB (PB I p b) x y = PB I x y := by
  show zup (zup (PB I p b) 94 10 (nI x)) 94 12 (nI y) = _
  rw [PB_10, PB_12]
section Lex
variable (G : Gx) (d : Nat) (I : Hi)
theorem ct_isAt (lo hi : Int32) (p e : Nat) (hp : p ≤ 400) (he : e ≤ 400) (h10 : I 94 10 = nI p) (h11 : I 94 11 = nI e) : Ct G GAM mX10_isAt d 0 [.ref 94, .int lo, .int hi] I (Rv (fun v J => J = I ∧ (v = some (.int (nI 0)) ∨ (v = some (.int (nI 1)) ∧ p < e)))) := by
  refine Ct.mk [some (.ref 94), some (.int lo), some (.int hi)] ?_
  refine Rn.aload_n dX10_isAt_0 rfl rfl ?_
  refine Rn.getI dX10_isAt_1 fd_X10_89_9 (by first | rfl | exact gC0 (by assumption) | exact gL0 (by assumption)) rfl ?_
  refine Rn.topI (nI p) (by exact h10) ?_
  refine Rn.aload_n dX10_isAt_4 rfl rfl ?_
  refine Rn.getI dX10_isAt_5 fd_X10_92_9 (by first | rfl | exact gC0 (by assumption) | exact gL0 (by assumption)) rfl ?_
  refine Rn.topI (nI e) (by exact h11) ?_
  refine Rn.icmp_geN dX10_isAt_8 41 (fun h1 => ?_) (fun h1 => ?_)
  · refine Rn.iconst (v := (nI 0)) dX10_isAt_41 rfl ?_
    exact Rn.zret dX10_isAt_42 rfl rfl (⟨rfl, Or.inl rfl⟩)
  · refine Rn.aload_n dX10_isAt_11 rfl rfl ?_
    refine Rn.getR dX10_isAt_12 fd_X10_29_9 (by first | rfl | exact gC0 (by assumption) | exact gL0 (by assumption)) rfl ?_
    refine Rn.aload_n dX10_isAt_15 rfl rfl ?_
    refine Rn.getI dX10_isAt_16 fd_X10_89_9 (by first | rfl | exact gC0 (by assumption) | exact gL0 (by assumption)) rfl ?_
    refine Rn.topI (nI p) (by exact h10) ?_
    refine Rn.baldN dX10_isAt_19 (by first | rfl | exact gC1 (by assumption) | exact gC2 (by assumption) | exact gC3 (by assumption) | exact gL1 (by assumption) | exact gL2 (by assumption) | exact gL3 (by assumption) | exact gL4 (by assumption) | exact gL5 (by assumption) | exact gL6 (by assumption)) ?_
    refine Rn.iload_n dX10_isAt_20 rfl rfl ?_
    refine Rn.icmp_lt (tgt := 41) dX10_isAt_21 (by decide) (fun h2 => ?_) (fun h2 => ?_)
    · refine Rn.iconst (v := (nI 0)) dX10_isAt_41 rfl ?_
      exact Rn.zret dX10_isAt_42 rfl rfl (⟨rfl, Or.inl rfl⟩)
    · refine Rn.aload_n dX10_isAt_24 rfl rfl ?_
      refine Rn.getR dX10_isAt_25 fd_X10_29_9 (by first | rfl | exact gC0 (by assumption) | exact gL0 (by assumption)) rfl ?_
      refine Rn.aload_n dX10_isAt_28 rfl rfl ?_
      refine Rn.getI dX10_isAt_29 fd_X10_89_9 (by first | rfl | exact gC0 (by assumption) | exact gL0 (by assumption)) rfl ?_
      refine Rn.topI (nI p) (by exact h10) ?_
      refine Rn.baldN dX10_isAt_32 (by first | rfl | exact gC1 (by assumption) | exact gC2 (by assumption) | exact gC3 (by assumption) | exact gL1 (by assumption) | exact gL2 (by assumption) | exact gL3 (by assumption) | exact gL4 (by assumption) | exact gL5 (by assumption) | exact gL6 (by assumption)) ?_
      refine Rn.iload_n dX10_isAt_33 rfl rfl ?_
      refine Rn.icmp_gt (tgt := 41) dX10_isAt_34 (by decide) (fun h3 => ?_) (fun h3 => ?_)
      · refine Rn.iconst (v := (nI 0)) dX10_isAt_41 rfl ?_
        exact Rn.zret dX10_isAt_42 rfl rfl (⟨rfl, Or.inl rfl⟩)
      · refine Rn.iconst (v := (nI 1)) dX10_isAt_37 rfl ?_
        refine Rn.goto 42 dX10_isAt_38 (by decide) ?_
        exact Rn.zret dX10_isAt_42 rfl rfl (⟨rfl, Or.inr ⟨rfl, by omega⟩⟩)
theorem lp_blanks {kx : Kx} {b : Nat} (p0 e : Nat) (he : e ≤ 400) (h11 : I 94 11 = nI e) (kk : ∀ p, p0 ≤ p → p ≤ 400 → Rn G GAM mX10_blanks kx (d + 1) b 24 [some (.ref 94)] [] (zup I 94 10 (nI p))) : ∀ m p : Nat, e ≤ p + m → p0 ≤ p → p ≤ 400 → Rn G GAM mX10_blanks kx (d + 1) b 0 [some (.ref 94)] [] (zup I 94 10 (nI p)) := by
  intro m
  induction m with
  | zero =>
    intro p h1 h2 h3
    refine Rn.aload_n dX10_blanks_0 rfl rfl ?_
    refine Rn.bipush (v := (nI 32)) dX10_blanks_1 rfl ?_
    refine Rn.bipush (v := (nI 32)) dX10_blanks_3 rfl ?_
    refine Rn.callV (As := [_, _]) dX10_blanks_5 mv_X10_95 (by first | rfl | exact gC0 (by assumption) | exact gL0 (by assumption)) rfl rfl rfl (Nat.le_of_ble_eq_true rfl) (ct_isAt G d _ _ _ p e h3 he (by rfl) (by exact h11)) (fun _ _ h => h) (fun v J h => ?_)
    obtain ⟨rfl, rfl | ⟨rfl, h4⟩⟩ := h
    · refine Rn.if_eq (tgt := 24) dX10_blanks_8 (by decide) (fun _ => ?_) (fun h9 => absurd h9 (by decide))
      exact kk p h2 h3
    · exact absurd h4 (by omega)
  | succ m ih =>
    intro p h1 h2 h3
    refine Rn.aload_n dX10_blanks_0 rfl rfl ?_
    refine Rn.bipush (v := (nI 32)) dX10_blanks_1 rfl ?_
    refine Rn.bipush (v := (nI 32)) dX10_blanks_3 rfl ?_
    refine Rn.callV (As := [_, _]) dX10_blanks_5 mv_X10_95 (by first | rfl | exact gC0 (by assumption) | exact gL0 (by assumption)) rfl rfl rfl (Nat.le_of_ble_eq_true rfl) (ct_isAt G d _ _ _ p e h3 he (by rfl) (by exact h11)) (fun _ _ h => h) (fun v J h => ?_)
    obtain ⟨rfl, rfl | ⟨rfl, h4⟩⟩ := h
    · refine Rn.if_eq (tgt := 24) dX10_blanks_8 (by decide) (fun _ => ?_) (fun h9 => absurd h9 (by decide))
      exact kk p h2 h3
    · refine Rn.if_eq (tgt := 24) dX10_blanks_8 (by decide) (fun h9 => absurd h9 (by decide)) (fun _ => ?_)
      refine Rn.aload_n dX10_blanks_11 rfl rfl ?_
      refine Rn.dup dX10_blanks_12 rfl ?_
      refine Rn.getI dX10_blanks_13 fd_X10_89_9 (by first | rfl | exact gC0 (by assumption) | exact gL0 (by assumption)) rfl ?_
      refine Rn.topI (nI p) (by rfl) ?_
      refine Rn.iconst (v := (nI 1)) dX10_blanks_16 rfl ?_
      refine Rn.iadd dX10_blanks_17 ?_
      refine Rn.topI (nI (p + 1)) (by exact nI_1 p) ?_
      refine Rn.putI dX10_blanks_18 fp_X10_89_9 (by first | rfl | exact gC0 (by assumption) | exact gL0 (by assumption)) rfl ?_
      refine Rn.goto 0 dX10_blanks_21 (by decide) ?_
      exact Rn.hpp _ (zup2 _ _ _ _ _) (ih (p + 1) (by omega) (by omega) (by omega))
theorem ct_blanks (p e : Nat) (hp : p ≤ 400) (he : e ≤ 400) (h10 : I 94 10 = nI p) (h11 : I 94 11 = nI e) : Ct G GAM mX10_blanks (d + 1) 0 [.ref 94] I (Rv (fun v J => v = none ∧ ∃ p', p ≤ p' ∧ p' ≤ 400 ∧ J = PB I p' p')) := by
  refine Ct.mk [some (.ref 94)] ?_
  refine Rn.hpp _ (zup_same h10).symm (lp_blanks G d I p e he h11 (fun p' h1 h2 => ?_) e p (by omega) (Nat.le_refl _) hp)
  refine Rn.aload_n dX10_blanks_24 rfl rfl ?_
  refine Rn.aload_n dX10_blanks_25 rfl rfl ?_
  refine Rn.getI dX10_blanks_26 fd_X10_89_9 (by first | rfl | exact gC0 (by assumption) | exact gL0 (by assumption)) rfl ?_
  refine Rn.topI (nI p') (by rfl) ?_
  refine Rn.putI dX10_blanks_29 fp_X10_99_9 (by first | rfl | exact gC0 (by assumption) | exact gL0 (by assumption)) rfl ?_
  exact Rn.vret dX10_blanks_32 rfl (⟨rfl, p', h1, h2, rfl⟩)
theorem lp_letters {kx : Kx} {b : Nat} (b1 e : Nat) (he : e ≤ 400) (h11 : I 94 11 = nI e) (kk : ∀ p, b1 ≤ p → p ≤ 400 → Rn G GAM mX10_letters kx (d + 2) b 28 [some (.ref 94)] [] (PB I p b1)) : ∀ m p : Nat, e ≤ p + m → b1 ≤ p → p ≤ 400 → Rn G GAM mX10_letters kx (d + 2) b 4 [some (.ref 94)] [] (PB I p b1) := by
  intro m
  induction m with
  | zero =>
    intro p h1 h2 h3
    refine Rn.aload_n dX10_letters_4 rfl rfl ?_
    refine Rn.bipush (v := (nI 97)) dX10_letters_5 rfl ?_
    refine Rn.bipush (v := (nI 122)) dX10_letters_7 rfl ?_
    refine Rn.callV (As := [_, _]) dX10_letters_9 mv_X10_95 (by first | rfl | exact gC0 (by assumption) | exact gL0 (by assumption)) rfl rfl rfl (Nat.le_of_ble_eq_true rfl) (ct_isAt G (d + 1) _ _ _ p e h3 he (by rfl) (by exact h11)) (fun _ _ h => h) (fun v J h => ?_)
    obtain ⟨rfl, rfl | ⟨rfl, h4⟩⟩ := h
    · refine Rn.if_eq (tgt := 28) dX10_letters_12 (by decide) (fun _ => ?_) (fun h9 => absurd h9 (by decide))
      exact kk p h2 h3
    · exact absurd h4 (by omega)
  | succ m ih =>
    intro p h1 h2 h3
    refine Rn.aload_n dX10_letters_4 rfl rfl ?_
    refine Rn.bipush (v := (nI 97)) dX10_letters_5 rfl ?_
    refine Rn.bipush (v := (nI 122)) dX10_letters_7 rfl ?_
    refine Rn.callV (As := [_, _]) dX10_letters_9 mv_X10_95 (by first | rfl | exact gC0 (by assumption) | exact gL0 (by assumption)) rfl rfl rfl (Nat.le_of_ble_eq_true rfl) (ct_isAt G (d + 1) _ _ _ p e h3 he (by rfl) (by exact h11)) (fun _ _ h => h) (fun v J h => ?_)
    obtain ⟨rfl, rfl | ⟨rfl, h4⟩⟩ := h
    · refine Rn.if_eq (tgt := 28) dX10_letters_12 (by decide) (fun _ => ?_) (fun h9 => absurd h9 (by decide))
      exact kk p h2 h3
    · refine Rn.if_eq (tgt := 28) dX10_letters_12 (by decide) (fun h9 => absurd h9 (by decide)) (fun _ => ?_)
      refine Rn.aload_n dX10_letters_15 rfl rfl ?_
      refine Rn.dup dX10_letters_16 rfl ?_
      refine Rn.getI dX10_letters_17 fd_X10_89_9 (by first | rfl | exact gC0 (by assumption) | exact gL0 (by assumption)) rfl ?_
      refine Rn.topI (nI p) (by rfl) ?_
      refine Rn.iconst (v := (nI 1)) dX10_letters_20 rfl ?_
      refine Rn.iadd dX10_letters_21 ?_
      refine Rn.topI (nI (p + 1)) (by exact nI_1 p) ?_
      refine Rn.putI dX10_letters_22 fp_X10_89_9 (by first | rfl | exact gC0 (by assumption) | exact gL0 (by assumption)) rfl ?_
      refine Rn.goto 4 dX10_letters_25 (by decide) ?_
      exact Rn.hpp _ (PB_10 _ _ _ _) (ih (p + 1) (by omega) (by omega) (by omega))
theorem ct_letters (p e : Nat) (hp : p ≤ 400) (he : e ≤ 400) (h10 : I 94 10 = nI p) (h11 : I 94 11 = nI e) : Ct G GAM mX10_letters (d + 2) 0 [.ref 94] I (Rv (fun v J => v = none ∧ ∃ p' b', p ≤ b' ∧ b' ≤ p' ∧ p' ≤ 400 ∧ J = PB I p' b')) := by
  refine Ct.mk [some (.ref 94)] ?_
  refine Rn.aload_n dX10_letters_0 rfl rfl ?_
  refine Rn.callV (As := []) dX10_letters_1 mv_X10_102 (by first | rfl | exact gC0 (by assumption) | exact gL0 (by assumption)) rfl rfl rfl (Nat.le_of_ble_eq_true rfl) (ct_blanks G d I p e hp he h10 h11) (fun _ _ h => h) (fun v J h => ?_)
  obtain ⟨rfl, p1, q1, q2, rfl⟩ := h
  refine lp_letters G d I p1 e he h11 (fun p' h1 h2 => ?_) e p1 (by omega) (Nat.le_refl _) q2
  exact Rn.vret dX10_letters_28 rfl (⟨rfl, p', p1, q1, h1, h2, rfl⟩)
theorem lp_isWord {kx : Kx} {bb : Nat} (i p b : Nat) (hi : i < zsN) (hp : p ≤ 400) (hb : b ≤ 400) (h12 : I 94 12 = nI b) (hq : p = b + zsLen.getD i 0) (kk : ∀ (r k : Nat), (r = 0 ∨ r = 1) → Rn G GAM mX10_isWord kx (d + 4) bb 67 [some (.ref 94), some (.ref (1000 + i)), some (.int (nI r)), some (.int (nI k))] [] I) :
    ∀ m k : Nat, k + m = zsLen.getD i 0 → Rn G GAM mX10_isWord kx (d + 4) bb 24 [some (.ref 94), some (.ref (1000 + i)), some (.int (nI 1)), some (.int (nI k))] [] I := by
  intro m
  induction m with
  | zero =>
    intro k hk
    refine Rn.iload_n dX10_isWord_24 rfl rfl ?_
    refine Rn.if_eq (tgt := 67) dX10_isWord_25 (by decide) (fun h9 => absurd h9 (by decide)) (fun _ => ?_)
    refine Rn.iload_n dX10_isWord_28 rfl rfl ?_
    refine Rn.aload_n dX10_isWord_29 rfl rfl ?_
    refine Rn.callVs (As := []) dX10_isWord_30 mv_X10_105 hi rfl rfl (Nat.le_of_ble_eq_true rfl) (ct_length G _ _ i hi) ?_
    refine Rn.icmp_geN dX10_isWord_33 67 (fun _ => ?_) (fun h9 => by exfalso; omega)
    exact kk 1 k (Or.inr rfl)
  | succ m ih =>
    intro k hk
    refine Rn.iload_n dX10_isWord_24 rfl rfl ?_
    refine Rn.if_eq (tgt := 67) dX10_isWord_25 (by decide) (fun h9 => absurd h9 (by decide)) (fun _ => ?_)
    refine Rn.iload_n dX10_isWord_28 rfl rfl ?_
    refine Rn.aload_n dX10_isWord_29 rfl rfl ?_
    refine Rn.callVs (As := []) dX10_isWord_30 mv_X10_105 hi rfl rfl (Nat.le_of_ble_eq_true rfl) (ct_length G _ _ i hi) ?_
    refine Rn.icmp_geN dX10_isWord_33 67 (fun h9 => by exfalso; omega) (fun _ => ?_)
    refine Rn.aload_n dX10_isWord_36 rfl rfl ?_
    refine Rn.getR dX10_isWord_37 fd_X10_29_9 (by first | rfl | exact gC0 (by assumption) | exact gL0 (by assumption)) rfl ?_
    refine Rn.aload_n dX10_isWord_40 rfl rfl ?_
    refine Rn.getI dX10_isWord_41 fd_X10_99_9 (by first | rfl | exact gC0 (by assumption) | exact gL0 (by assumption)) rfl ?_
    refine Rn.topI (nI b) (by exact h12) ?_
    refine Rn.iload_n dX10_isWord_44 rfl rfl ?_
    refine Rn.iadd dX10_isWord_45 ?_
    refine Rn.topI (nI (b + k)) (by first | rfl | (simp only [nI_add, pk_mul, nI_1]; done) | (simp only [nI_add, pk_mul, nI_1]; congr 1; omega)) ?_
    refine Rn.baldN dX10_isWord_46 (by first | rfl | exact gC1 (by assumption) | exact gC2 (by assumption) | exact gC3 (by assumption) | exact gL1 (by assumption) | exact gL2 (by assumption) | exact gL3 (by assumption) | exact gL4 (by assumption) | exact gL5 (by assumption) | exact gL6 (by assumption)) ?_
    refine Rn.aload_n dX10_isWord_47 rfl rfl ?_
    refine Rn.iload_n dX10_isWord_48 rfl rfl ?_
    refine Rn.callVs (As := [_]) dX10_isWord_49 mv_X10_110 hi rfl rfl (Nat.le_of_ble_eq_true rfl) (ct_charAt G _ _ i _ hi (by omega)) ?_
    refine Rn.icmp_ne (tgt := 59) dX10_isWord_52 (by decide) (fun h1 => ?_) (fun h1 => ?_)
    · refine Rn.iconst (v := (nI 0)) dX10_isWord_59 rfl ?_
      refine Rn.istore_n dX10_isWord_60 rfl (by decide) ?_
      refine Rn.iincN dX10_isWord_61 rfl (by decide) ?_
      refine Rn.goto 24 dX10_isWord_64 (by decide) ?_
      refine Rn.iload_n dX10_isWord_24 rfl rfl ?_
      refine Rn.if_eq (tgt := 67) dX10_isWord_25 (by decide) (fun _ => ?_) (fun h9 => absurd h9 (by decide))
      exact kk 0 _ (Or.inl rfl)
    · refine Rn.iconst (v := (nI 1)) dX10_isWord_55 rfl ?_
      refine Rn.goto 60 dX10_isWord_56 (by decide) ?_
      refine Rn.istore_n dX10_isWord_60 rfl (by decide) ?_
      refine Rn.iincN dX10_isWord_61 rfl (by decide) ?_
      refine Rn.goto 24 dX10_isWord_64 (by decide) ?_
      exact ih (k + 1) (by omega)
theorem ct_isWord (i p b : Nat) (hi : i < zsN) (hp : p ≤ 400) (hb : b ≤ 400) (h10 : I 94 10 = nI p) (h12 : I 94 12 = nI b) : Ct G GAM mX10_isWord (d + 4) 0 [.ref 94, .ref (1000 + i)] I (Rv (fun v J => J = I ∧ (v = some (.int (nI 0)) ∨ (v = some (.int (nI 1)) ∧ p = b + zsLen.getD i 0)))) := by
  have hz : zsLen.getD i 0 < 8 := (zsLen_b ⟨i, hi⟩).2
  refine Ct.mk [some (.ref 94), some (.ref (1000 + i)), none, none] ?_
  refine Rn.aload_n dX10_isWord_0 rfl rfl ?_
  refine Rn.getI dX10_isWord_1 fd_X10_89_9 (by first | rfl | exact gC0 (by assumption) | exact gL0 (by assumption)) rfl ?_
  refine Rn.topI (nI p) (by exact h10) ?_
  refine Rn.aload_n dX10_isWord_4 rfl rfl ?_
  refine Rn.getI dX10_isWord_5 fd_X10_99_9 (by first | rfl | exact gC0 (by assumption) | exact gL0 (by assumption)) rfl ?_
  refine Rn.topI (nI b) (by exact h12) ?_
  refine Rn.isub dX10_isWord_8 ?_
  refine Rn.aload_n dX10_isWord_9 rfl rfl ?_
  refine Rn.callVs (As := []) dX10_isWord_10 mv_X10_105 hi rfl rfl (Nat.le_of_ble_eq_true rfl) (ct_length G _ _ i hi) ?_
  refine Rn.icmp_ne (tgt := 20) dX10_isWord_13 (by decide) (fun h1 => ?_) (fun h1 => ?_)
  · refine Rn.iconst (v := (nI 0)) dX10_isWord_20 rfl ?_
    refine Rn.istore_n dX10_isWord_21 rfl (by decide) ?_
    refine Rn.iconst (v := (nI 0)) dX10_isWord_22 rfl ?_
    refine Rn.istore_n dX10_isWord_23 rfl (by decide) ?_
    refine Rn.iload_n dX10_isWord_24 rfl rfl ?_
    refine Rn.if_eq (tgt := 67) dX10_isWord_25 (by decide) (fun _ => ?_) (fun h9 => absurd h9 (by decide))
    refine Rn.iload_n dX10_isWord_67 rfl rfl ?_
    exact Rn.zret dX10_isWord_68 rfl rfl (⟨rfl, Or.inl rfl⟩)
  · have hq : p = b + zsLen.getD i 0 := by
      have h2 : nI p = nI (b + zsLen.getD i 0) := by
        rw [← nI_add, ← h1, Int32.add_comm, Int32.sub_add_cancel]
      exact (nI_eq (by omega) (by omega)).mp h2
    refine Rn.iconst (v := (nI 1)) dX10_isWord_16 rfl ?_
    refine Rn.goto 21 dX10_isWord_17 (by decide) ?_
    refine Rn.istore_n dX10_isWord_21 rfl (by decide) ?_
    refine Rn.iconst (v := (nI 0)) dX10_isWord_22 rfl ?_
    refine Rn.istore_n dX10_isWord_23 rfl (by decide) ?_
    refine lp_isWord G d I i p b hi hp hb h12 hq (fun r k hr => ?_) (zsLen.getD i 0) 0 (by omega)
    rcases hr with rfl | rfl
    · refine Rn.iload_n dX10_isWord_67 rfl rfl ?_
      exact Rn.zret dX10_isWord_68 rfl rfl (⟨rfl, Or.inl rfl⟩)
    · refine Rn.iload_n dX10_isWord_67 rfl rfl ?_
      exact Rn.zret dX10_isWord_68 rfl rfl (⟨rfl, Or.inr ⟨rfl, hq⟩⟩)
theorem ct_sign (c : Int32) (p e : Nat) (hp : p ≤ 400) (he : e ≤ 400) (h10 : I 94 10 = nI p) (h11 : I 94 11 = nI e) : Ct G GAM mX10_sign (d + 2) 0 [.ref 94, .int c] I (Rv (fun v J => (v = some (.int (nI 0)) ∧ ∃ p', p ≤ p' ∧ p' ≤ 400 ∧ J = PB I p' p') ∨ (v = some (.int (nI 1)) ∧ ∃ p', p ≤ p' ∧ p' + 1 ≤ 400 ∧ J = PB I (p' + 1) p'))) := by
  refine Ct.mk [some (.ref 94), some (.int c)] ?_
  refine Rn.aload_n dX10_sign_0 rfl rfl ?_
  refine Rn.callV (As := []) dX10_sign_1 mv_X10_102 (by first | rfl | exact gC0 (by assumption) | exact gL0 (by assumption)) rfl rfl rfl (Nat.le_of_ble_eq_true rfl) (ct_blanks G d I p e hp he h10 h11) (fun _ _ h => h) (fun v J h => ?_)
  obtain ⟨rfl, p1, q1, q2, rfl⟩ := h
  refine Rn.aload_n dX10_sign_4 rfl rfl ?_
  refine Rn.iload_n dX10_sign_5 rfl rfl ?_
  refine Rn.iload_n dX10_sign_6 rfl rfl ?_
  refine Rn.callV (As := [_, _]) dX10_sign_7 mv_X10_95 (by first | rfl | exact gC0 (by assumption) | exact gL0 (by assumption)) rfl rfl rfl (Nat.le_of_ble_eq_true rfl) (ct_isAt G (d + 1) _ _ _ p1 e q2 he (by rfl) (by exact h11)) (fun _ _ h => h) (fun v J h => ?_)
  obtain ⟨rfl, rfl | ⟨rfl, h4⟩⟩ := h
  · refine Rn.if_ne (tgt := 15) dX10_sign_10 (by decide) (fun h9 => absurd h9 (by decide)) (fun _ => ?_)
    refine Rn.iconst (v := (nI 0)) dX10_sign_13 rfl ?_
    exact Rn.zret dX10_sign_14 rfl rfl (Or.inl ⟨rfl, p1, q1, q2, rfl⟩)
  · refine Rn.if_ne (tgt := 15) dX10_sign_10 (by decide) (fun _ => ?_) (fun h9 => absurd h9 (by decide))
    refine Rn.aload_n dX10_sign_15 rfl rfl ?_
    refine Rn.dup dX10_sign_16 rfl ?_
    refine Rn.getI dX10_sign_17 fd_X10_89_9 (by first | rfl | exact gC0 (by assumption) | exact gL0 (by assumption)) rfl ?_
    refine Rn.topI (nI p1) (by rfl) ?_
    refine Rn.iconst (v := (nI 1)) dX10_sign_20 rfl ?_
    refine Rn.iadd dX10_sign_21 ?_
    refine Rn.topI (nI (p1 + 1)) (by exact nI_1 p1) ?_
    refine Rn.putI dX10_sign_22 fp_X10_89_9 (by first | rfl | exact gC0 (by assumption) | exact gL0 (by assumption)) rfl ?_
    refine Rn.iconst (v := (nI 1)) dX10_sign_25 rfl ?_
    exact Rn.zret dX10_sign_26 rfl rfl (Or.inr ⟨rfl, p1, q1, by omega, PB_10 _ _ _ _⟩)
theorem ct_passes (i p e : Nat) (hi : i < zsN) (hp : p ≤ 400) (he : e ≤ 400) (h10 : I 94 10 = nI p) (h11 : I 94 11 = nI e) : Ct G GAM mX10_passes (d + 5) 0 [.ref 94, .ref (1000 + i)] I (Rv (fun v J => (v = some (.int (nI 0)) ∧ ∃ p', p ≤ p' ∧ p' ≤ 400 ∧ J = PB I p' p') ∨ (v = some (.int (nI 1)) ∧ ∃ p' b', p ≤ b' ∧ b' + 2 ≤ p' ∧ p' ≤ 400 ∧ J = PB I p' b'))) := by
  have hz : 2 ≤ zsLen.getD i 0 := (zsLen_b ⟨i, hi⟩).1
  refine Ct.mk [some (.ref 94), some (.ref (1000 + i))] ?_
  refine Rn.aload_n dX10_passes_0 rfl rfl ?_
  refine Rn.callV (As := []) dX10_passes_1 mv_X10_114 (by first | rfl | exact gC0 (by assumption) | exact gL0 (by assumption)) rfl rfl rfl (Nat.le_of_ble_eq_true rfl) (ct_letters G (d + 2) I p e hp he h10 h11) (fun _ _ h => h) (fun v J h => ?_)
  obtain ⟨rfl, p1, b1, q1, q2, q3, rfl⟩ := h
  refine Rn.aload_n dX10_passes_4 rfl rfl ?_
  refine Rn.aload_n dX10_passes_5 rfl rfl ?_
  refine Rn.callV (As := [_]) dX10_passes_6 mv_X10_117 (by first | rfl | exact gC0 (by assumption) | exact gL0 (by assumption)) rfl rfl rfl (Nat.le_of_ble_eq_true rfl) (ct_isWord G d _ i p1 b1 hi q3 (by omega) (by rfl) (by rfl)) (fun _ _ h => h) (fun v J h => ?_)
  obtain ⟨rfl, rfl | ⟨rfl, h4⟩⟩ := h
  · refine Rn.if_eq (tgt := 14) dX10_passes_9 (by decide) (fun _ => ?_) (fun h9 => absurd h9 (by decide))
    refine Rn.aload_n dX10_passes_14 rfl rfl ?_
    refine Rn.aload_n dX10_passes_15 rfl rfl ?_
    refine Rn.getI dX10_passes_16 fd_X10_99_9 (by first | rfl | exact gC0 (by assumption) | exact gL0 (by assumption)) rfl ?_
    refine Rn.topI (nI b1) (by rfl) ?_
    refine Rn.putI dX10_passes_19 fp_X10_89_9 (by first | rfl | exact gC0 (by assumption) | exact gL0 (by assumption)) rfl ?_
    refine Rn.iconst (v := (nI 0)) dX10_passes_22 rfl ?_
    exact Rn.zret dX10_passes_23 rfl rfl (Or.inl ⟨rfl, b1, q1, by omega, PB_10 _ _ _ _⟩)
  · refine Rn.if_eq (tgt := 14) dX10_passes_9 (by decide) (fun h9 => absurd h9 (by decide)) (fun _ => ?_)
    refine Rn.iconst (v := (nI 1)) dX10_passes_12 rfl ?_
    exact Rn.zret dX10_passes_13 rfl rfl (Or.inr ⟨rfl, p1, b1, q1, by omega, q3, rfl⟩)
theorem lp_number {kx : Kx} {bb : Nat} (b1 e : Nat) (x1 x2 : Option Value) (he : e ≤ 400) (h11 : I 94 11 = nI e) (kk : ∀ (p : Nat) (v : Int32), b1 ≤ p → p ≤ 400 → Rn G GAM mX10_number kx (d + 2) bb 65 [some (.ref 94), x1, x2, some (.int v)] [] (PB I p b1)) : ∀ (m p : Nat) (v : Int32), e ≤ p + m → b1 ≤ p → p ≤ 400 → Rn G GAM mX10_number kx (d + 2) bb 6 [some (.ref 94), x1, x2, some (.int v)] [] (PB I p b1) := by
  intro m
  induction m with
  | zero =>
    intro p v h1 h2 h3
    refine Rn.aload_n dX10_number_6 rfl rfl ?_
    refine Rn.bipush (v := (nI 48)) dX10_number_7 rfl ?_
    refine Rn.bipush (v := (nI 57)) dX10_number_9 rfl ?_
    refine Rn.callV (As := [_, _]) dX10_number_11 mv_X10_95 (by first | rfl | exact gC0 (by assumption) | exact gL0 (by assumption)) rfl rfl rfl (Nat.le_of_ble_eq_true rfl) (ct_isAt G (d + 1) _ _ _ p e h3 he (by rfl) (by exact h11)) (fun _ _ h => h) (fun v J h => ?_)
    obtain ⟨rfl, rfl | ⟨rfl, h4⟩⟩ := h
    · refine Rn.if_eq (tgt := 65) dX10_number_14 (by decide) (fun _ => ?_) (fun h9 => absurd h9 (by decide))
      exact kk p v h2 h3
    · exact absurd h4 (by omega)
  | succ m ih =>
    intro p v h1 h2 h3
    refine Rn.aload_n dX10_number_6 rfl rfl ?_
    refine Rn.bipush (v := (nI 48)) dX10_number_7 rfl ?_
    refine Rn.bipush (v := (nI 57)) dX10_number_9 rfl ?_
    refine Rn.callV (As := [_, _]) dX10_number_11 mv_X10_95 (by first | rfl | exact gC0 (by assumption) | exact gL0 (by assumption)) rfl rfl rfl (Nat.le_of_ble_eq_true rfl) (ct_isAt G (d + 1) _ _ _ p e h3 he (by rfl) (by exact h11)) (fun _ _ h => h) (fun v J h => ?_)
    obtain ⟨rfl, rfl | ⟨rfl, h4⟩⟩ := h
    · refine Rn.if_eq (tgt := 65) dX10_number_14 (by decide) (fun _ => ?_) (fun h9 => absurd h9 (by decide))
      exact kk p v h2 h3
    · refine Rn.if_eq (tgt := 65) dX10_number_14 (by decide) (fun h9 => absurd h9 (by decide)) (fun _ => ?_)
      refine Rn.aload_n dX10_number_17 rfl rfl ?_
      refine Rn.getI dX10_number_18 fd_X10_89_9 (by first | rfl | exact gC0 (by assumption) | exact gL0 (by assumption)) rfl ?_
      refine Rn.topI (nI p) (by rfl) ?_
      refine Rn.aload_n dX10_number_21 rfl rfl ?_
      refine Rn.getI dX10_number_22 fd_X10_99_9 (by first | rfl | exact gC0 (by assumption) | exact gL0 (by assumption)) rfl ?_
      refine Rn.topI (nI b1) (by rfl) ?_
      refine Rn.isub dX10_number_25 ?_
      refine Rn.iconst (v := (nI 3)) dX10_number_26 rfl ?_
      refine Rn.icmp_ge (tgt := 50) dX10_number_27 (by decide) (fun h5 => ?_) (fun h5 => ?_)
      · refine Rn.iload_n dX10_number_50 rfl rfl ?_
        refine Rn.istore_n dX10_number_51 rfl (by decide) ?_
        refine Rn.aload_n dX10_number_52 rfl rfl ?_
        refine Rn.dup dX10_number_53 rfl ?_
        refine Rn.getI dX10_number_54 fd_X10_89_9 (by first | rfl | exact gC0 (by assumption) | exact gL0 (by assumption)) rfl ?_
        refine Rn.topI (nI p) (by rfl) ?_
        refine Rn.iconst (v := (nI 1)) dX10_number_57 rfl ?_
        refine Rn.iadd dX10_number_58 ?_
        refine Rn.topI (nI (p + 1)) (by exact nI_1 p) ?_
        refine Rn.putI dX10_number_59 fp_X10_89_9 (by first | rfl | exact gC0 (by assumption) | exact gL0 (by assumption)) rfl ?_
        refine Rn.goto 6 dX10_number_62 (by decide) ?_
        exact Rn.hpp _ (PB_10 _ _ _ _) (ih (p + 1) _ (by omega) (by omega) (by omega))
      · refine Rn.bipush (v := (nI 10)) dX10_number_30 rfl ?_
        refine Rn.iload_n dX10_number_32 rfl rfl ?_
        refine Rn.imul dX10_number_33 ?_
        refine Rn.aload_n dX10_number_34 rfl rfl ?_
        refine Rn.getR dX10_number_35 fd_X10_29_9 (by first | rfl | exact gC0 (by assumption) | exact gL0 (by assumption)) rfl ?_
        refine Rn.aload_n dX10_number_38 rfl rfl ?_
        refine Rn.getI dX10_number_39 fd_X10_89_9 (by first | rfl | exact gC0 (by assumption) | exact gL0 (by assumption)) rfl ?_
        refine Rn.topI (nI p) (by rfl) ?_
        refine Rn.baldN dX10_number_42 (by first | rfl | exact gC1 (by assumption) | exact gC2 (by assumption) | exact gC3 (by assumption) | exact gL1 (by assumption) | exact gL2 (by assumption) | exact gL3 (by assumption) | exact gL4 (by assumption) | exact gL5 (by assumption) | exact gL6 (by assumption)) ?_
        refine Rn.iadd dX10_number_43 ?_
        refine Rn.bipush (v := (nI 48)) dX10_number_44 rfl ?_
        refine Rn.isub dX10_number_46 ?_
        refine Rn.goto 51 dX10_number_47 (by decide) ?_
        refine Rn.istore_n dX10_number_51 rfl (by decide) ?_
        refine Rn.aload_n dX10_number_52 rfl rfl ?_
        refine Rn.dup dX10_number_53 rfl ?_
        refine Rn.getI dX10_number_54 fd_X10_89_9 (by first | rfl | exact gC0 (by assumption) | exact gL0 (by assumption)) rfl ?_
        refine Rn.topI (nI p) (by rfl) ?_
        refine Rn.iconst (v := (nI 1)) dX10_number_57 rfl ?_
        refine Rn.iadd dX10_number_58 ?_
        refine Rn.topI (nI (p + 1)) (by exact nI_1 p) ?_
        refine Rn.putI dX10_number_59 fp_X10_89_9 (by first | rfl | exact gC0 (by assumption) | exact gL0 (by assumption)) rfl ?_
        refine Rn.goto 6 dX10_number_62 (by decide) ?_
        exact Rn.hpp _ (PB_10 _ _ _ _) (ih (p + 1) _ (by omega) (by omega) (by omega))
theorem ct_number (lo hi : Int32) (p e : Nat) (hp : p ≤ 400) (he : e ≤ 400) (h10 : I 94 10 = nI p) (h11 : I 94 11 = nI e) : Ct G GAM mX10_number (d + 2) 0 [.ref 94, .int lo, .int hi] I (Rv (fun v J => ∃ p' b', p ≤ b' ∧ b' ≤ p' ∧ p' ≤ 400 ∧ J = PB I p' b' ∧ (v = some (.int (-1)) ∨ ∃ x, v = some (.int x) ∧ b' < p' ∧ lo ≤ x ∧ x ≤ hi))) := by
  refine Ct.mk [some (.ref 94), some (.int lo), some (.int hi), none] ?_
  refine Rn.aload_n dX10_number_0 rfl rfl ?_
  refine Rn.callV (As := []) dX10_number_1 mv_X10_102 (by first | rfl | exact gC0 (by assumption) | exact gL0 (by assumption)) rfl rfl rfl (Nat.le_of_ble_eq_true rfl) (ct_blanks G d I p e hp he h10 h11) (fun _ _ h => h) (fun v J h => ?_)
  obtain ⟨rfl, p1, q1, q2, rfl⟩ := h
  refine Rn.iconst (v := (nI 0)) dX10_number_4 rfl ?_
  refine Rn.istore_n dX10_number_5 rfl (by decide) ?_
  refine lp_number G d I p1 e _ _ he h11 (fun p' v h1 h2 => ?_) e p1 _ (by omega) (Nat.le_refl _) q2
  refine Rn.aload_n dX10_number_65 rfl rfl ?_
  refine Rn.getI dX10_number_66 fd_X10_89_9 (by first | rfl | exact gC0 (by assumption) | exact gL0 (by assumption)) rfl ?_
  refine Rn.topI (nI p') (by rfl) ?_
  refine Rn.aload_n dX10_number_69 rfl rfl ?_
  refine Rn.getI dX10_number_70 fd_X10_99_9 (by first | rfl | exact gC0 (by assumption) | exact gL0 (by assumption)) rfl ?_
  refine Rn.topI (nI p1) (by rfl) ?_
  refine Rn.icmp_eqN dX10_number_73 99 (fun h3 => ?_) (fun h3 => ?_)
  · refine Rn.iconst (v := (-1)) dX10_number_99 rfl ?_
    refine Rn.goto 104 dX10_number_100 (by decide) ?_
    exact Rn.iret dX10_number_104 rfl (⟨p', p1, q1, h1, h2, rfl, Or.inl rfl⟩)
  · refine Rn.aload_n dX10_number_76 rfl rfl ?_
    refine Rn.getI dX10_number_77 fd_X10_89_9 (by first | rfl | exact gC0 (by assumption) | exact gL0 (by assumption)) rfl ?_
    refine Rn.topI (nI p') (by rfl) ?_
    refine Rn.aload_n dX10_number_80 rfl rfl ?_
    refine Rn.getI dX10_number_81 fd_X10_99_9 (by first | rfl | exact gC0 (by assumption) | exact gL0 (by assumption)) rfl ?_
    refine Rn.topI (nI p1) (by rfl) ?_
    refine Rn.isub dX10_number_84 ?_
    refine Rn.iconst (v := (nI 3)) dX10_number_85 rfl ?_
    refine Rn.icmp_gt (tgt := 99) dX10_number_86 (by decide) (fun h4 => ?_) (fun h4 => ?_)
    · refine Rn.iconst (v := (-1)) dX10_number_99 rfl ?_
      refine Rn.goto 104 dX10_number_100 (by decide) ?_
      exact Rn.iret dX10_number_104 rfl (⟨p', p1, q1, h1, h2, rfl, Or.inl rfl⟩)
    · refine Rn.iload_n dX10_number_89 rfl rfl ?_
      refine Rn.iload_n dX10_number_90 rfl rfl ?_
      refine Rn.icmp_lt (tgt := 99) dX10_number_91 (by decide) (fun h5 => ?_) (fun h5 => ?_)
      · refine Rn.iconst (v := (-1)) dX10_number_99 rfl ?_
        refine Rn.goto 104 dX10_number_100 (by decide) ?_
        exact Rn.iret dX10_number_104 rfl (⟨p', p1, q1, h1, h2, rfl, Or.inl rfl⟩)
      · refine Rn.iload_n dX10_number_94 rfl rfl ?_
        refine Rn.iload_n dX10_number_95 rfl rfl ?_
        refine Rn.icmp_le (tgt := 103) dX10_number_96 (by decide) (fun h6 => ?_) (fun h6 => ?_)
        · refine Rn.iload_n dX10_number_103 rfl rfl ?_
          exact Rn.iret dX10_number_104 rfl (⟨p', p1, q1, h1, h2, rfl, Or.inr ⟨v, rfl, by omega, Int32.not_lt.mp h5, h6⟩⟩)
        · refine Rn.iconst (v := (-1)) dX10_number_99 rfl ?_
          refine Rn.goto 104 dX10_number_100 (by decide) ?_
          exact Rn.iret dX10_number_104 rfl (⟨p', p1, q1, h1, h2, rfl, Or.inl rfl⟩)
end Lex
