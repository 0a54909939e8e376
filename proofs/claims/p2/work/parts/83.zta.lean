theorem dX9_end_0 : decode cX9_end 0 = .ok (.iload_n 1, 1) := by decide +kernel
theorem dX9_end_1 : decode cX9_end 1 = .ok (.ifCond .lt 14, 3) := by decide +kernel
theorem dX9_end_15 : decode cX9_end 15 = .ok (.iconst 0, 1) := by decide +kernel
theorem dX9_end_16 : decode cX9_end 16 = .ok (.ireturn, 1) := by decide +kernel
theorem dX9_end_4 : decode cX9_end 4 = .ok (.iload_n 1, 1) := by decide +kernel
theorem dX9_end_5 : decode cX9_end 5 = .ok (.aload_n 0, 1) := by decide +kernel
theorem dX9_end_6 : decode cX9_end 6 = .ok (.getfield 10, 3) := by decide +kernel
theorem dX9_end_9 : decode cX9_end 9 = .ok (.getfield 84, 3) := by decide +kernel
theorem dX9_end_12 : decode cX9_end 12 = .ok (.if_icmp .le 5, 3) := by decide +kernel
theorem dX9_end_17 : decode cX9_end 17 = .ok (.aload_n 0, 1) := by decide +kernel
theorem dX9_end_18 : decode cX9_end 18 = .ok (.getfield 10, 3) := by decide +kernel
theorem dX9_end_21 : decode cX9_end 21 = .ok (.iload_n 1, 1) := by decide +kernel
theorem dX9_end_22 : decode cX9_end 22 = .ok (.putfield 84, 3) := by decide +kernel
theorem dX9_end_25 : decode cX9_end 25 = .ok (.iconst 1, 1) := by decide +kernel
theorem dX9_end_26 : decode cX9_end 26 = .ok (.ireturn, 1) := by decide +kernel
theorem dX8_put_3 : decode cX8_put 3 = .ok (.iload_n 2, 1) := by decide +kernel
theorem dX8_put_4 : decode cX8_put 4 = .ok (.ifCond .lt 52, 3) := by decide +kernel
theorem dX8_put_7 : decode cX8_put 7 = .ok (.aload_n 0, 1) := by decide +kernel
theorem dX8_put_8 : decode cX8_put 8 = .ok (.getfield 15, 3) := by decide +kernel
theorem dX8_put_11 : decode cX8_put 11 = .ok (.ifCond .lt 39, 3) := by decide +kernel
theorem dX8_put_14 : decode cX8_put 14 = .ok (.aload_n 0, 1) := by decide +kernel
theorem dX8_put_15 : decode cX8_put 15 = .ok (.getfield 15, 3) := by decide +kernel
theorem dX8_put_18 : decode cX8_put 18 = .ok (.sipush 400, 3) := by decide +kernel
theorem dX8_put_21 : decode cX8_put 21 = .ok (.if_icmp .ge 29, 3) := by decide +kernel
theorem dX8_put_24 : decode cX8_put 24 = .ok (.aload_n 0, 1) := by decide +kernel
theorem dX8_put_25 : decode cX8_put 25 = .ok (.getfield 9, 3) := by decide +kernel
theorem dX8_put_28 : decode cX8_put 28 = .ok (.aload_n 0, 1) := by decide +kernel
theorem dX8_put_29 : decode cX8_put 29 = .ok (.getfield 15, 3) := by decide +kernel
theorem dX8_put_32 : decode cX8_put 32 = .ok (.iload_n 1, 1) := by decide +kernel
theorem dX8_put_33 : decode cX8_put 33 = .ok (.iload_n 2, 1) := by decide +kernel
theorem dX8_put_34 : decode cX8_put 34 = .ok (.iushr, 1) := by decide +kernel
theorem dX8_put_35 : decode cX8_put 35 = .ok (.sipush 255, 3) := by decide +kernel
theorem dX8_put_38 : decode cX8_put 38 = .ok (.iand, 1) := by decide +kernel
theorem dX8_put_39 : decode cX8_put 39 = .ok (.iastore, 1) := by decide +kernel
theorem dX8_put_40 : decode cX8_put 40 = .ok (.aload_n 0, 1) := by decide +kernel
theorem dX8_put_41 : decode cX8_put 41 = .ok (.dup, 1) := by decide +kernel
theorem dX8_put_42 : decode cX8_put 42 = .ok (.getfield 15, 3) := by decide +kernel
theorem dX8_put_45 : decode cX8_put 45 = .ok (.iconst 1, 1) := by decide +kernel
theorem dX8_put_46 : decode cX8_put 46 = .ok (.iadd, 1) := by decide +kernel
theorem dX8_put_47 : decode cX8_put 47 = .ok (.putfield 15, 3) := by decide +kernel
theorem dX8_put_50 : decode cX8_put 50 = .ok (.iinc 2 (-8), 3) := by decide +kernel
theorem dX8_put_53 : decode cX8_put 53 = .ok (.goto (-50), 3) := by decide +kernel
theorem dX8_put_0 : decode cX8_put 0 = .ok (.bipush 24, 2) := by decide +kernel
theorem dX8_put_2 : decode cX8_put 2 = .ok (.istore_n 2, 1) := by decide +kernel
theorem dX8_put_56 : decode cX8_put 56 = .ok (.return_, 1) := by decide +kernel
theorem dX9_feed_0 : decode cX9_feed 0 = .ok (.aload_n 0, 1) := by decide +kernel
theorem dX9_feed_1 : decode cX9_feed 1 = .ok (.getfield 10, 3) := by decide +kernel
theorem dX9_feed_4 : decode cX9_feed 4 = .ok (.getfield 84, 3) := by decide +kernel
theorem dX9_feed_7 : decode cX9_feed 7 = .ok (.bipush 20, 2) := by decide +kernel
theorem dX9_feed_9 : decode cX9_feed 9 = .ok (.iadd, 1) := by decide +kernel
theorem dX9_feed_10 : decode cX9_feed 10 = .ok (.sipush 400, 3) := by decide +kernel
theorem dX9_feed_13 : decode cX9_feed 13 = .ok (.if_icmp .le 5, 3) := by decide +kernel
theorem dX9_feed_18 : decode cX9_feed 18 = .ok (.aload_n 0, 1) := by decide +kernel
theorem dX9_feed_19 : decode cX9_feed 19 = .ok (.getfield 10, 3) := by decide +kernel
theorem dX9_feed_22 : decode cX9_feed 22 = .ok (.iload_n 1, 1) := by decide +kernel
theorem dX9_feed_23 : decode cX9_feed 23 = .ok (.invokevirtual 87, 3) := by decide +kernel
theorem dX9_feed_26 : decode cX9_feed 26 = .ok (.aload_n 0, 1) := by decide +kernel
theorem dX9_feed_27 : decode cX9_feed 27 = .ok (.getfield 10, 3) := by decide +kernel
theorem dX9_feed_30 : decode cX9_feed 30 = .ok (.iload_n 2, 1) := by decide +kernel
theorem dX9_feed_31 : decode cX9_feed 31 = .ok (.invokevirtual 87, 3) := by decide +kernel
theorem dX9_feed_34 : decode cX9_feed 34 = .ok (.aload_n 0, 1) := by decide +kernel
theorem dX9_feed_35 : decode cX9_feed 35 = .ok (.getfield 10, 3) := by decide +kernel
theorem dX9_feed_38 : decode cX9_feed 38 = .ok (.iload_n 3, 1) := by decide +kernel
theorem dX9_feed_39 : decode cX9_feed 39 = .ok (.invokevirtual 87, 3) := by decide +kernel
theorem dX9_feed_42 : decode cX9_feed 42 = .ok (.aload_n 0, 1) := by decide +kernel
theorem dX9_feed_43 : decode cX9_feed 43 = .ok (.getfield 10, 3) := by decide +kernel
theorem dX9_feed_46 : decode cX9_feed 46 = .ok (.iload 4, 2) := by decide +kernel
theorem dX9_feed_48 : decode cX9_feed 48 = .ok (.invokevirtual 87, 3) := by decide +kernel
theorem dX9_feed_51 : decode cX9_feed 51 = .ok (.aload_n 0, 1) := by decide +kernel
theorem dX9_feed_52 : decode cX9_feed 52 = .ok (.getfield 10, 3) := by decide +kernel
theorem dX9_feed_55 : decode cX9_feed 55 = .ok (.iload 5, 2) := by decide +kernel
theorem dX9_feed_57 : decode cX9_feed 57 = .ok (.invokevirtual 87, 3) := by decide +kernel
theorem dX9_feed_60 : decode cX9_feed 60 = .ok (.aload_n 0, 1) := by decide +kernel
theorem dX9_feed_61 : decode cX9_feed 61 = .ok (.getfield 10, 3) := by decide +kernel
theorem dX9_feed_64 : decode cX9_feed 64 = .ok (.getfield 84, 3) := by decide +kernel
theorem dX9_feed_67 : decode cX9_feed 67 = .ok (.ireturn, 1) := by decide +kernel
theorem dX9_feed_16 : decode cX9_feed 16 = .ok (.iconst (-1), 1) := by decide +kernel
theorem dX9_feed_17 : decode cX9_feed 17 = .ok (.ireturn, 1) := by decide +kernel
theorem dX10_feed_60 : decode cX10_feed 60 = .ok (.iload 6, 2) := by decide +kernel
theorem dX10_feed_62 : decode cX10_feed 62 = .ok (.bipush 20, 2) := by decide +kernel
theorem dX10_feed_64 : decode cX10_feed 64 = .ok (.if_icmp .ge 42, 3) := by decide +kernel
theorem dX10_feed_67 : decode cX10_feed 67 = .ok (.aload_n 0, 1) := by decide +kernel
theorem dX10_feed_68 : decode cX10_feed 68 = .ok (.getfield 29, 3) := by decide +kernel
theorem dX10_feed_71 : decode cX10_feed 71 = .ok (.aload_n 0, 1) := by decide +kernel
theorem dX10_feed_72 : decode cX10_feed 72 = .ok (.getfield 86, 3) := by decide +kernel
theorem dX10_feed_75 : decode cX10_feed 75 = .ok (.iload 6, 2) := by decide +kernel
theorem dX10_feed_77 : decode cX10_feed 77 = .ok (.iadd, 1) := by decide +kernel
theorem dX10_feed_78 : decode cX10_feed 78 = .ok (.aload_n 0, 1) := by decide +kernel
theorem dX10_feed_79 : decode cX10_feed 79 = .ok (.getfield 36, 3) := by decide +kernel
theorem dX10_feed_82 : decode cX10_feed 82 = .ok (.iload 6, 2) := by decide +kernel
theorem dX10_feed_84 : decode cX10_feed 84 = .ok (.iconst 4, 1) := by decide +kernel
theorem dX10_feed_85 : decode cX10_feed 85 = .ok (.idiv, 1) := by decide +kernel
theorem dX10_feed_86 : decode cX10_feed 86 = .ok (.iaload, 1) := by decide +kernel
theorem dX10_feed_87 : decode cX10_feed 87 = .ok (.bipush 24, 2) := by decide +kernel
theorem dX10_feed_89 : decode cX10_feed 89 = .ok (.bipush 8, 2) := by decide +kernel
theorem dX10_feed_91 : decode cX10_feed 91 = .ok (.iload 6, 2) := by decide +kernel
theorem dX10_feed_93 : decode cX10_feed 93 = .ok (.iconst 4, 1) := by decide +kernel
theorem dX10_feed_94 : decode cX10_feed 94 = .ok (.irem, 1) := by decide +kernel
theorem dX10_feed_95 : decode cX10_feed 95 = .ok (.imul, 1) := by decide +kernel
theorem dX10_feed_96 : decode cX10_feed 96 = .ok (.isub, 1) := by decide +kernel
theorem dX10_feed_97 : decode cX10_feed 97 = .ok (.ishr, 1) := by decide +kernel
theorem dX10_feed_98 : decode cX10_feed 98 = .ok (.i2b, 1) := by decide +kernel
theorem dX10_feed_99 : decode cX10_feed 99 = .ok (.bastore, 1) := by decide +kernel
theorem dX10_feed_100 : decode cX10_feed 100 = .ok (.iinc 6 1, 3) := by decide +kernel
theorem dX10_feed_103 : decode cX10_feed 103 = .ok (.goto (-43), 3) := by decide +kernel
theorem dX10_feed_0 : decode cX10_feed 0 = .ok (.aload_n 0, 1) := by decide +kernel
theorem dX10_feed_1 : decode cX10_feed 1 = .ok (.iconst 0, 1) := by decide +kernel
theorem dX10_feed_2 : decode cX10_feed 2 = .ok (.putfield 3, 3) := by decide +kernel
theorem dX10_feed_5 : decode cX10_feed 5 = .ok (.aload_n 0, 1) := by decide +kernel
theorem dX10_feed_6 : decode cX10_feed 6 = .ok (.getfield 86, 3) := by decide +kernel
theorem dX10_feed_9 : decode cX10_feed 9 = .ok (.bipush 20, 2) := by decide +kernel
theorem dX10_feed_11 : decode cX10_feed 11 = .ok (.iadd, 1) := by decide +kernel
theorem dX10_feed_12 : decode cX10_feed 12 = .ok (.sipush 400, 3) := by decide +kernel
theorem dX10_feed_15 : decode cX10_feed 15 = .ok (.if_icmp .le 5, 3) := by decide +kernel
theorem dX10_feed_20 : decode cX10_feed 20 = .ok (.aload_n 0, 1) := by decide +kernel
theorem dX10_feed_21 : decode cX10_feed 21 = .ok (.getfield 36, 3) := by decide +kernel
theorem dX10_feed_24 : decode cX10_feed 24 = .ok (.iconst 0, 1) := by decide +kernel
theorem dX10_feed_25 : decode cX10_feed 25 = .ok (.iload_n 1, 1) := by decide +kernel
theorem dX10_feed_26 : decode cX10_feed 26 = .ok (.iastore, 1) := by decide +kernel
theorem dX10_feed_27 : decode cX10_feed 27 = .ok (.aload_n 0, 1) := by decide +kernel
theorem dX10_feed_28 : decode cX10_feed 28 = .ok (.getfield 36, 3) := by decide +kernel
theorem dX10_feed_31 : decode cX10_feed 31 = .ok (.iconst 1, 1) := by decide +kernel
theorem dX10_feed_32 : decode cX10_feed 32 = .ok (.iload_n 2, 1) := by decide +kernel
theorem dX10_feed_33 : decode cX10_feed 33 = .ok (.iastore, 1) := by decide +kernel
theorem dX10_feed_34 : decode cX10_feed 34 = .ok (.aload_n 0, 1) := by decide +kernel
theorem dX10_feed_35 : decode cX10_feed 35 = .ok (.getfield 36, 3) := by decide +kernel
theorem dX10_feed_38 : decode cX10_feed 38 = .ok (.iconst 2, 1) := by decide +kernel
theorem dX10_feed_39 : decode cX10_feed 39 = .ok (.iload_n 3, 1) := by decide +kernel
theorem dX10_feed_40 : decode cX10_feed 40 = .ok (.iastore, 1) := by decide +kernel
theorem dX10_feed_41 : decode cX10_feed 41 = .ok (.aload_n 0, 1) := by decide +kernel
theorem dX10_feed_42 : decode cX10_feed 42 = .ok (.getfield 36, 3) := by decide +kernel
theorem dX10_feed_45 : decode cX10_feed 45 = .ok (.iconst 3, 1) := by decide +kernel
theorem dX10_feed_46 : decode cX10_feed 46 = .ok (.iload 4, 2) := by decide +kernel
theorem dX10_feed_48 : decode cX10_feed 48 = .ok (.iastore, 1) := by decide +kernel
theorem dX10_feed_49 : decode cX10_feed 49 = .ok (.aload_n 0, 1) := by decide +kernel
theorem dX10_feed_50 : decode cX10_feed 50 = .ok (.getfield 36, 3) := by decide +kernel
theorem dX10_feed_53 : decode cX10_feed 53 = .ok (.iconst 4, 1) := by decide +kernel
theorem dX10_feed_54 : decode cX10_feed 54 = .ok (.iload 5, 2) := by decide +kernel
theorem dX10_feed_56 : decode cX10_feed 56 = .ok (.iastore, 1) := by decide +kernel
theorem dX10_feed_57 : decode cX10_feed 57 = .ok (.iconst 0, 1) := by decide +kernel
theorem dX10_feed_58 : decode cX10_feed 58 = .ok (.istore 6, 2) := by decide +kernel
theorem dX10_feed_106 : decode cX10_feed 106 = .ok (.aload_n 0, 1) := by decide +kernel
theorem dX10_feed_107 : decode cX10_feed 107 = .ok (.dup, 1) := by decide +kernel
theorem dX10_feed_108 : decode cX10_feed 108 = .ok (.getfield 86, 3) := by decide +kernel
theorem dX10_feed_111 : decode cX10_feed 111 = .ok (.bipush 20, 2) := by decide +kernel
theorem dX10_feed_113 : decode cX10_feed 113 = .ok (.iadd, 1) := by decide +kernel
theorem dX10_feed_114 : decode cX10_feed 114 = .ok (.putfield 86, 3) := by decide +kernel
theorem dX10_feed_117 : decode cX10_feed 117 = .ok (.aload_n 0, 1) := by decide +kernel
theorem dX10_feed_118 : decode cX10_feed 118 = .ok (.getfield 86, 3) := by decide +kernel
theorem dX10_feed_121 : decode cX10_feed 121 = .ok (.ireturn, 1) := by decide +kernel
theorem dX10_feed_18 : decode cX10_feed 18 = .ok (.iconst (-1), 1) := by decide +kernel
theorem dX10_feed_19 : decode cX10_feed 19 = .ok (.ireturn, 1) := by decide +kernel
/-! feed and end on both sides (p3 and p2): what is kept is the tape's length -/
def LI (I : Hi) : Prop := BX I ∧ XM I ∧ I 1 1 = I 94 9
theorem LI.of {I J : Hi} (h : LI I) (hQ : WQ I J) : LI J := ⟨hQ.1, hQ.2.1, by rw [hQ.2.2.1, hQ.2.2.2]; exact h.2.2⟩
/-- what feed does to a tape's length, and what it answers -/
def feedP (old new x : Int32) : Prop := ∃ l : Nat, l ≤ 400 ∧ old = nI l ∧ ((400 < l + 20 ∧ x = -1 ∧ new = old) ∨ (l + 20 ≤ 400 ∧ x = nI (l + 20) ∧ new = nI (l + 20)))
def endP (n old new x : Int32) : Prop := (¬ n < 0 ∧ n ≤ old ∧ x = 1 ∧ new = n) ∨ (¬ (¬ n < 0 ∧ n ≤ old) ∧ x = 0 ∧ new = old)
theorem feedP.eq {a b c x y : Int32} (h1 : feedP a b x) (h2 : feedP a c y) : x = y ∧ b = c := by
  obtain ⟨l, hl, rfl, h1⟩ := h1
  obtain ⟨k, hk, e, h2⟩ := h2
  obtain rfl : l = k := (nI_eq (by omega) (by omega)).mp e
  rcases h1 with ⟨a1, rfl, rfl⟩ | ⟨a1, rfl, rfl⟩
  · rcases h2 with ⟨b1, rfl, rfl⟩ | ⟨b1, -, -⟩
    · exact ⟨rfl, rfl⟩
    · omega
  · rcases h2 with ⟨b1, -, -⟩ | ⟨b1, rfl, rfl⟩
    · omega
    · exact ⟨rfl, rfl⟩
theorem endP.eq {n a b c x y : Int32} (h1 : endP n a b x) (h2 : endP n a c y) : x = y ∧ b = c := by
  rcases h1 with ⟨a1, a2, rfl, rfl⟩ | ⟨a1, rfl, rfl⟩
  · rcases h2 with ⟨-, -, rfl, rfl⟩ | ⟨b1, -, -⟩
    · exact ⟨rfl, rfl⟩
    · exact absurd ⟨a1, a2⟩ b1
  · rcases h2 with ⟨b1, b2, -, -⟩ | ⟨-, rfl, rfl⟩
    · exact absurd ⟨b1, b2⟩ a1
    · exact ⟨rfl, rfl⟩
section Tap
variable (G : Gx) (d : Nat) (I : Hi)
theorem xd_end (n : Int32) (hB : BX I) (hX : XM I) : Ct G GAM mX9_end d 0 [.ref 0, .int n] I (Rv (fun v J => ∃ x, v = some (.int x) ∧ BX J ∧ XM J ∧ J 94 9 = I 94 9 ∧ endP n (I 1 1) (J 1 1) x)) := by
  have h11 : (0 : Int) ≤ (I 1 1).toInt ∧ (I 1 1).toInt ≤ 400 := hB 1 1
  refine Ct.mk [some (.ref 0), some (.int n)] ?_
  refine Rn.iload_n dX9_end_0 rfl rfl ?_
  refine Rn.if_lt (tgt := 15) dX9_end_1 (by decide) (fun h1 => ?_) (fun h1 => ?_)
  · refine Rn.iconst (v := (nI 0)) dX9_end_15 rfl ?_
    exact Rn.zret dX9_end_16 rfl rfl (⟨0, rfl, hB, hX, rfl, Or.inr ⟨fun q => q.1 h1, rfl, rfl⟩⟩)
  · refine Rn.iload_n dX9_end_4 rfl rfl ?_
    refine Rn.aload_n dX9_end_5 rfl rfl ?_
    refine Rn.getR dX9_end_6 fd_X9_10_8 (by first | rfl | exact gC0 (by assumption) | exact gL0 (by assumption)) rfl ?_
    refine Rn.getI dX9_end_9 fd_X9_84_7 (by first | rfl | exact gC0 (by assumption) | exact gL0 (by assumption)) rfl ?_
    refine Rn.icmp_le (tgt := 17) dX9_end_12 (by decide) (fun h2 => ?_) (fun h2 => ?_)
    · have hn : inIv (0, 400) n := by
        have a1 := Int32.le_iff_toInt_le.mp (Int32.not_lt.mp h1)
        have a2 := Int32.le_iff_toInt_le.mp h2
        rw [Int32.toInt_zero] at a1
        exact ⟨a1, by show _ ≤ (400 : Int); omega⟩
      refine Rn.aload_n dX9_end_17 rfl rfl ?_
      refine Rn.getR dX9_end_18 fd_X9_10_8 (by first | rfl | exact gC0 (by assumption) | exact gL0 (by assumption)) rfl ?_
      refine Rn.iload_n dX9_end_21 rfl rfl ?_
      refine Rn.putI dX9_end_22 fp_X9_84_7 (by first | rfl | exact gC0 (by assumption) | exact gL0 (by assumption)) rfl ?_
      refine Rn.iconst (v := (nI 1)) dX9_end_25 rfl ?_
      exact Rn.zret dX9_end_26 rfl rfl (⟨1, rfl, BX.up (a := 1) (j := 1) hB hn, XM.up hX (by decide), by rw [zup_ne _ _ (by decide)], Or.inl ⟨h1, h2, rfl, by rw [zup_at, upd_at]⟩⟩)
    · refine Rn.iconst (v := (nI 0)) dX9_end_15 rfl ?_
      exact Rn.zret dX9_end_16 rfl rfl (⟨0, rfl, hB, hX, rfl, Or.inr ⟨fun q => h2 q.2, rfl, rfl⟩⟩)
theorem mo_end (n : Int32) (hB : BX I) (hX : XM I) : Ct G GAM mX10_end d 0 [.ref 94, .int n] I (Rv (fun v J => ∃ x, v = some (.int x) ∧ BX J ∧ XM J ∧ J 1 1 = I 1 1 ∧ endP n (I 94 9) (J 94 9) x)) := by
  have h9 : (0 : Int) ≤ (I 94 9).toInt ∧ (I 94 9).toInt ≤ 400 := hB 94 9
  refine (ct_end G d I n).weak (fun o J h => ?_)
  obtain ⟨rfl, rfl⟩ := h
  refine ⟨_, rfl, ?_⟩
  by_cases q : ¬ n < 0 ∧ n ≤ I 94 9
  · have hn : inIv (0, 400) n := by
      have a1 := Int32.le_iff_toInt_le.mp (Int32.not_lt.mp q.1)
      have a2 := Int32.le_iff_toInt_le.mp q.2
      rw [Int32.toInt_zero] at a1
      exact ⟨a1, by show _ ≤ (400 : Int); omega⟩
    rw [if_pos q, bI_t q]
    exact ⟨BX.up (a := 94) (j := 9) (BX.thr hB _) hn, XM.up (XM.up hX (by decide)) (by decide), by rw [zup_ne _ _ (by decide), zup_ne _ _ (by decide)], Or.inl ⟨q.1, q.2, rfl, by rw [zup_at, upd_at]⟩⟩
  · rw [if_neg q, bI_f q]
    exact ⟨BX.thr hB _, XM.up hX (by decide), by rw [zup_ne _ _ (by decide)], Or.inr ⟨q, rfl, by rw [zup_at, upd_ne _ _ (by decide)]⟩⟩
def TP (I0 : Hi) (l : Nat) (J : Hi) : Prop := J 1 1 = nI l ∧ BX J ∧ XM J ∧ J 94 9 = I0 94 9
def TN (I0 : Hi) (l : Nat) (J : Hi) : Prop := J 94 9 = nI l ∧ BX J ∧ XM J ∧ J 1 1 = I0 1 1
theorem TN.up {I0 J : Hi} {l a j : Nat} {v : Int32} (h : TN I0 l J) (ha : a ≠ 94 ∧ a ≠ 1) (hd : a ≠ 95 ∧ a ≠ 96) (hv : inIv (hxB a j) v) : TN I0 l (zup J a j v) := ⟨by rw [zup_ne _ _ ha.1.symm]; exact h.1, BX.up h.2.1 hv, XM.up h.2.2.1 hd, by rw [zup_ne _ _ ha.2.symm]; exact h.2.2.2⟩
theorem div4 : ∀ i, i < 20 → nI i / nI 4 = nI (i / 4) := by decide
theorem pt_24 {kx : Kx} {b : Nat} {I0 : Hi} (v : Int32) (l : Nat) (hl : l < 400) (h : TP I0 l I) (kk : ∀ J, TP I0 (l + 1) J → Rn G GAM mX8_put kx d b 3 [some (.ref 1), some (.int v), some (.int (nI 16))] [] J) : Rn G GAM mX8_put kx d b 3 [some (.ref 1), some (.int v), some (.int (nI 24))] [] I := by
  refine Rn.iload_n dX8_put_3 rfl rfl ?_
  refine Rn.if_lt (tgt := 56) dX8_put_4 (by decide) (fun h9 => absurd h9 (by decide)) (fun _ => ?_)
  refine Rn.aload_n dX8_put_7 rfl rfl ?_
  refine Rn.getI dX8_put_8 fd_X8_15_7 (by first | rfl | exact gC0 (by assumption) | exact gL0 (by assumption)) rfl ?_
  refine Rn.topI (nI l) (by exact h.1) ?_
  refine Rn.if_ltN dX8_put_11 ?_ 50
  refine Rn.aload_n dX8_put_14 rfl rfl ?_
  refine Rn.getI dX8_put_15 fd_X8_15_7 (by first | rfl | exact gC0 (by assumption) | exact gL0 (by assumption)) rfl ?_
  refine Rn.topI (nI l) (by exact h.1) ?_
  refine Rn.sipush (v := (nI 400)) dX8_put_18 rfl ?_
  refine Rn.icmp_geN dX8_put_21 50 (fun h9 => by exfalso; omega) (fun _ => ?_)
  refine Rn.aload_n dX8_put_24 rfl rfl ?_
  refine Rn.getR dX8_put_25 fd_X8_9_7 (by first | rfl | exact gC0 (by assumption) | exact gL0 (by assumption)) rfl ?_
  refine Rn.aload_n dX8_put_28 rfl rfl ?_
  refine Rn.getI dX8_put_29 fd_X8_15_7 (by first | rfl | exact gC0 (by assumption) | exact gL0 (by assumption)) rfl ?_
  refine Rn.topI (nI l) (by exact h.1) ?_
  refine Rn.iload_n dX8_put_32 rfl rfl ?_
  refine Rn.iload_n dX8_put_33 rfl rfl ?_
  refine Rn.iushr dX8_put_34 ?_
  refine Rn.sipush (v := (nI 255)) dX8_put_35 rfl ?_
  refine Rn.iand dX8_put_38 ?_
  refine Rn.iastN dX8_put_39 (by first | rfl | exact gC1 (by assumption) | exact gC2 (by assumption) | exact gC3 (by assumption) | exact gL1 (by assumption) | exact gL2 (by assumption) | exact gL3 (by assumption) | exact gL4 (by assumption) | exact gL5 (by assumption) | exact gL6 (by assumption)) ?_
  refine Rn.aload_n dX8_put_40 rfl rfl ?_
  refine Rn.dup dX8_put_41 rfl ?_
  refine Rn.getI dX8_put_42 fd_X8_15_7 (by first | rfl | exact gC0 (by assumption) | exact gL0 (by assumption)) rfl ?_
  refine Rn.topI (nI l) (by rw [zup_ne _ _ (by decide)]; exact h.1) ?_
  refine Rn.iconst (v := (nI 1)) dX8_put_45 rfl ?_
  refine Rn.iadd dX8_put_46 ?_
  refine Rn.topI (nI (l + 1)) (by exact nI_1 l) ?_
  refine Rn.putI dX8_put_47 fp_X8_15_7 (by first | rfl | exact gC0 (by assumption) | exact gL0 (by assumption)) rfl ?_
  refine Rn.iinc (v := (nI 16)) dX8_put_50 rfl (by decide) (by decide) ?_
  refine Rn.goto 3 dX8_put_53 (by decide) ?_
  exact kk _ ⟨by rw [zup_at, upd_at], BX.up (a := 1) (j := 1) (BX.up (a := 2) (j := l) h.2.1 (inIv_F _)) (iv_nI (n := 400) (by omega) (by decide)), XM.up (XM.up h.2.2.1 (by decide)) (by decide), by rw [zup_ne _ _ (by decide), zup_ne _ _ (by decide)]; exact h.2.2.2⟩
theorem pt_16 {kx : Kx} {b : Nat} {I0 : Hi} (v : Int32) (l : Nat) (hl : l < 400) (h : TP I0 l I) (kk : ∀ J, TP I0 (l + 1) J → Rn G GAM mX8_put kx d b 3 [some (.ref 1), some (.int v), some (.int (nI 8))] [] J) : Rn G GAM mX8_put kx d b 3 [some (.ref 1), some (.int v), some (.int (nI 16))] [] I := by
  refine Rn.iload_n dX8_put_3 rfl rfl ?_
  refine Rn.if_lt (tgt := 56) dX8_put_4 (by decide) (fun h9 => absurd h9 (by decide)) (fun _ => ?_)
  refine Rn.aload_n dX8_put_7 rfl rfl ?_
  refine Rn.getI dX8_put_8 fd_X8_15_7 (by first | rfl | exact gC0 (by assumption) | exact gL0 (by assumption)) rfl ?_
  refine Rn.topI (nI l) (by exact h.1) ?_
  refine Rn.if_ltN dX8_put_11 ?_ 50
  refine Rn.aload_n dX8_put_14 rfl rfl ?_
  refine Rn.getI dX8_put_15 fd_X8_15_7 (by first | rfl | exact gC0 (by assumption) | exact gL0 (by assumption)) rfl ?_
  refine Rn.topI (nI l) (by exact h.1) ?_
  refine Rn.sipush (v := (nI 400)) dX8_put_18 rfl ?_
  refine Rn.icmp_geN dX8_put_21 50 (fun h9 => by exfalso; omega) (fun _ => ?_)
  refine Rn.aload_n dX8_put_24 rfl rfl ?_
  refine Rn.getR dX8_put_25 fd_X8_9_7 (by first | rfl | exact gC0 (by assumption) | exact gL0 (by assumption)) rfl ?_
  refine Rn.aload_n dX8_put_28 rfl rfl ?_
  refine Rn.getI dX8_put_29 fd_X8_15_7 (by first | rfl | exact gC0 (by assumption) | exact gL0 (by assumption)) rfl ?_
  refine Rn.topI (nI l) (by exact h.1) ?_
  refine Rn.iload_n dX8_put_32 rfl rfl ?_
  refine Rn.iload_n dX8_put_33 rfl rfl ?_
  refine Rn.iushr dX8_put_34 ?_
  refine Rn.sipush (v := (nI 255)) dX8_put_35 rfl ?_
  refine Rn.iand dX8_put_38 ?_
  refine Rn.iastN dX8_put_39 (by first | rfl | exact gC1 (by assumption) | exact gC2 (by assumption) | exact gC3 (by assumption) | exact gL1 (by assumption) | exact gL2 (by assumption) | exact gL3 (by assumption) | exact gL4 (by assumption) | exact gL5 (by assumption) | exact gL6 (by assumption)) ?_
  refine Rn.aload_n dX8_put_40 rfl rfl ?_
  refine Rn.dup dX8_put_41 rfl ?_
  refine Rn.getI dX8_put_42 fd_X8_15_7 (by first | rfl | exact gC0 (by assumption) | exact gL0 (by assumption)) rfl ?_
  refine Rn.topI (nI l) (by rw [zup_ne _ _ (by decide)]; exact h.1) ?_
  refine Rn.iconst (v := (nI 1)) dX8_put_45 rfl ?_
  refine Rn.iadd dX8_put_46 ?_
  refine Rn.topI (nI (l + 1)) (by exact nI_1 l) ?_
  refine Rn.putI dX8_put_47 fp_X8_15_7 (by first | rfl | exact gC0 (by assumption) | exact gL0 (by assumption)) rfl ?_
  refine Rn.iinc (v := (nI 8)) dX8_put_50 rfl (by decide) (by decide) ?_
  refine Rn.goto 3 dX8_put_53 (by decide) ?_
  exact kk _ ⟨by rw [zup_at, upd_at], BX.up (a := 1) (j := 1) (BX.up (a := 2) (j := l) h.2.1 (inIv_F _)) (iv_nI (n := 400) (by omega) (by decide)), XM.up (XM.up h.2.2.1 (by decide)) (by decide), by rw [zup_ne _ _ (by decide), zup_ne _ _ (by decide)]; exact h.2.2.2⟩
theorem pt_8 {kx : Kx} {b : Nat} {I0 : Hi} (v : Int32) (l : Nat) (hl : l < 400) (h : TP I0 l I) (kk : ∀ J, TP I0 (l + 1) J → Rn G GAM mX8_put kx d b 3 [some (.ref 1), some (.int v), some (.int (nI 0))] [] J) : Rn G GAM mX8_put kx d b 3 [some (.ref 1), some (.int v), some (.int (nI 8))] [] I := by
  refine Rn.iload_n dX8_put_3 rfl rfl ?_
  refine Rn.if_lt (tgt := 56) dX8_put_4 (by decide) (fun h9 => absurd h9 (by decide)) (fun _ => ?_)
  refine Rn.aload_n dX8_put_7 rfl rfl ?_
  refine Rn.getI dX8_put_8 fd_X8_15_7 (by first | rfl | exact gC0 (by assumption) | exact gL0 (by assumption)) rfl ?_
  refine Rn.topI (nI l) (by exact h.1) ?_
  refine Rn.if_ltN dX8_put_11 ?_ 50
  refine Rn.aload_n dX8_put_14 rfl rfl ?_
  refine Rn.getI dX8_put_15 fd_X8_15_7 (by first | rfl | exact gC0 (by assumption) | exact gL0 (by assumption)) rfl ?_
  refine Rn.topI (nI l) (by exact h.1) ?_
  refine Rn.sipush (v := (nI 400)) dX8_put_18 rfl ?_
  refine Rn.icmp_geN dX8_put_21 50 (fun h9 => by exfalso; omega) (fun _ => ?_)
  refine Rn.aload_n dX8_put_24 rfl rfl ?_
  refine Rn.getR dX8_put_25 fd_X8_9_7 (by first | rfl | exact gC0 (by assumption) | exact gL0 (by assumption)) rfl ?_
  refine Rn.aload_n dX8_put_28 rfl rfl ?_
  refine Rn.getI dX8_put_29 fd_X8_15_7 (by first | rfl | exact gC0 (by assumption) | exact gL0 (by assumption)) rfl ?_
  refine Rn.topI (nI l) (by exact h.1) ?_
  refine Rn.iload_n dX8_put_32 rfl rfl ?_
  refine Rn.iload_n dX8_put_33 rfl rfl ?_
  refine Rn.iushr dX8_put_34 ?_
  refine Rn.sipush (v := (nI 255)) dX8_put_35 rfl ?_
  refine Rn.iand dX8_put_38 ?_
  refine Rn.iastN dX8_put_39 (by first | rfl | exact gC1 (by assumption) | exact gC2 (by assumption) | exact gC3 (by assumption) | exact gL1 (by assumption) | exact gL2 (by assumption) | exact gL3 (by assumption) | exact gL4 (by assumption) | exact gL5 (by assumption) | exact gL6 (by assumption)) ?_
  refine Rn.aload_n dX8_put_40 rfl rfl ?_
  refine Rn.dup dX8_put_41 rfl ?_
  refine Rn.getI dX8_put_42 fd_X8_15_7 (by first | rfl | exact gC0 (by assumption) | exact gL0 (by assumption)) rfl ?_
  refine Rn.topI (nI l) (by rw [zup_ne _ _ (by decide)]; exact h.1) ?_
  refine Rn.iconst (v := (nI 1)) dX8_put_45 rfl ?_
  refine Rn.iadd dX8_put_46 ?_
  refine Rn.topI (nI (l + 1)) (by exact nI_1 l) ?_
  refine Rn.putI dX8_put_47 fp_X8_15_7 (by first | rfl | exact gC0 (by assumption) | exact gL0 (by assumption)) rfl ?_
  refine Rn.iinc (v := (nI 0)) dX8_put_50 rfl (by decide) (by decide) ?_
  refine Rn.goto 3 dX8_put_53 (by decide) ?_
  exact kk _ ⟨by rw [zup_at, upd_at], BX.up (a := 1) (j := 1) (BX.up (a := 2) (j := l) h.2.1 (inIv_F _)) (iv_nI (n := 400) (by omega) (by decide)), XM.up (XM.up h.2.2.1 (by decide)) (by decide), by rw [zup_ne _ _ (by decide), zup_ne _ _ (by decide)]; exact h.2.2.2⟩
theorem pt_0 {kx : Kx} {b : Nat} {I0 : Hi} (v : Int32) (l : Nat) (hl : l < 400) (h : TP I0 l I) (kk : ∀ J, TP I0 (l + 1) J → Rn G GAM mX8_put kx d b 3 [some (.ref 1), some (.int v), some (.int (-8))] [] J) : Rn G GAM mX8_put kx d b 3 [some (.ref 1), some (.int v), some (.int (nI 0))] [] I := by
  refine Rn.iload_n dX8_put_3 rfl rfl ?_
  refine Rn.if_lt (tgt := 56) dX8_put_4 (by decide) (fun h9 => absurd h9 (by decide)) (fun _ => ?_)
  refine Rn.aload_n dX8_put_7 rfl rfl ?_
  refine Rn.getI dX8_put_8 fd_X8_15_7 (by first | rfl | exact gC0 (by assumption) | exact gL0 (by assumption)) rfl ?_
  refine Rn.topI (nI l) (by exact h.1) ?_
  refine Rn.if_ltN dX8_put_11 ?_ 50
  refine Rn.aload_n dX8_put_14 rfl rfl ?_
  refine Rn.getI dX8_put_15 fd_X8_15_7 (by first | rfl | exact gC0 (by assumption) | exact gL0 (by assumption)) rfl ?_
  refine Rn.topI (nI l) (by exact h.1) ?_
  refine Rn.sipush (v := (nI 400)) dX8_put_18 rfl ?_
  refine Rn.icmp_geN dX8_put_21 50 (fun h9 => by exfalso; omega) (fun _ => ?_)
  refine Rn.aload_n dX8_put_24 rfl rfl ?_
  refine Rn.getR dX8_put_25 fd_X8_9_7 (by first | rfl | exact gC0 (by assumption) | exact gL0 (by assumption)) rfl ?_
  refine Rn.aload_n dX8_put_28 rfl rfl ?_
  refine Rn.getI dX8_put_29 fd_X8_15_7 (by first | rfl | exact gC0 (by assumption) | exact gL0 (by assumption)) rfl ?_
  refine Rn.topI (nI l) (by exact h.1) ?_
  refine Rn.iload_n dX8_put_32 rfl rfl ?_
  refine Rn.iload_n dX8_put_33 rfl rfl ?_
  refine Rn.iushr dX8_put_34 ?_
  refine Rn.sipush (v := (nI 255)) dX8_put_35 rfl ?_
  refine Rn.iand dX8_put_38 ?_
  refine Rn.iastN dX8_put_39 (by first | rfl | exact gC1 (by assumption) | exact gC2 (by assumption) | exact gC3 (by assumption) | exact gL1 (by assumption) | exact gL2 (by assumption) | exact gL3 (by assumption) | exact gL4 (by assumption) | exact gL5 (by assumption) | exact gL6 (by assumption)) ?_
  refine Rn.aload_n dX8_put_40 rfl rfl ?_
  refine Rn.dup dX8_put_41 rfl ?_
  refine Rn.getI dX8_put_42 fd_X8_15_7 (by first | rfl | exact gC0 (by assumption) | exact gL0 (by assumption)) rfl ?_
  refine Rn.topI (nI l) (by rw [zup_ne _ _ (by decide)]; exact h.1) ?_
  refine Rn.iconst (v := (nI 1)) dX8_put_45 rfl ?_
  refine Rn.iadd dX8_put_46 ?_
  refine Rn.topI (nI (l + 1)) (by exact nI_1 l) ?_
  refine Rn.putI dX8_put_47 fp_X8_15_7 (by first | rfl | exact gC0 (by assumption) | exact gL0 (by assumption)) rfl ?_
  refine Rn.iinc (v := (-8)) dX8_put_50 rfl (by decide) (by decide) ?_
  refine Rn.goto 3 dX8_put_53 (by decide) ?_
  exact kk _ ⟨by rw [zup_at, upd_at], BX.up (a := 1) (j := 1) (BX.up (a := 2) (j := l) h.2.1 (inIv_F _)) (iv_nI (n := 400) (by omega) (by decide)), XM.up (XM.up h.2.2.1 (by decide)) (by decide), by rw [zup_ne _ _ (by decide), zup_ne _ _ (by decide)]; exact h.2.2.2⟩
theorem tp_put {I0 : Hi} (l : Nat) (hl : l + 4 ≤ 400) (h : TP I0 l I) (v : Int32) : Ct G GAM mX8_put d 0 [.ref 1, .int v] I (fun o K => o = .inl none ∧ TP I0 (l + 4) K) := by
  refine Ct.mk [some (.ref 1), some (.int v), none] ?_
  refine Rn.bipush (v := (nI 24)) dX8_put_0 rfl ?_
  refine Rn.istore_n dX8_put_2 rfl (by decide) ?_
  refine Rn.lcl [some (.ref 1), some (.int v), some (.int (nI 24))] rfl ?_
  refine pt_24 G d I v l (by omega) h (fun J1 h1 => ?_)
  refine pt_16 G d J1 v (l + 1) (by omega) h1 (fun J2 h2 => ?_)
  refine pt_8 G d J2 v (l + 1 + 1) (by omega) h2 (fun J3 h3 => ?_)
  refine pt_0 G d J3 v (l + 1 + 1 + 1) (by omega) h3 (fun J4 h4 => ?_)
  refine Rn.iload_n dX8_put_3 rfl rfl ?_
  refine Rn.if_lt (tgt := 56) dX8_put_4 (by decide) (fun _ => ?_) (fun h9 => absurd h9 (by decide))
  exact Rn.vret dX8_put_56 rfl (⟨rfl, h4⟩)
theorem xd_feed (p0 p1 p2 p3 p4 : Int32) (hB : BX I) (hX : XM I) : Ct G GAM mX9_feed (d + 1) 0 [.ref 0, .int p0, .int p1, .int p2, .int p3, .int p4] I (Rv (fun v J => ∃ x, v = some (.int x) ∧ BX J ∧ XM J ∧ J 94 9 = I 94 9 ∧ feedP (I 1 1) (J 1 1) x)) := by
  obtain ⟨l, hl, e⟩ := nI_iv (n := 400) (hB 1 1)
  have T0 : TP I l I := ⟨e, hB, hX, rfl⟩
  refine Ct.mk [some (.ref 0), some (.int p0), some (.int p1), some (.int p2), some (.int p3), some (.int p4)] ?_
  refine Rn.aload_n dX9_feed_0 rfl rfl ?_
  refine Rn.getR dX9_feed_1 fd_X9_10_8 (by first | rfl | exact gC0 (by assumption) | exact gL0 (by assumption)) rfl ?_
  refine Rn.getI dX9_feed_4 fd_X9_84_7 (by first | rfl | exact gC0 (by assumption) | exact gL0 (by assumption)) rfl ?_
  refine Rn.topI (nI l) (by exact e) ?_
  refine Rn.bipush (v := (nI 20)) dX9_feed_7 rfl ?_
  refine Rn.iadd dX9_feed_9 ?_
  refine Rn.topI (nI (l + 20)) (by exact nI_add l 20) ?_
  refine Rn.sipush (v := (nI 400)) dX9_feed_10 rfl ?_
  refine Rn.icmp_leN dX9_feed_13 18 (fun h1 => ?_) (fun h1 => ?_)
  · refine Rn.aload_n dX9_feed_18 rfl rfl ?_
    refine Rn.getR dX9_feed_19 fd_X9_10_8 (by first | rfl | exact gC0 (by assumption) | exact gL0 (by assumption)) rfl ?_
    refine Rn.iload_n dX9_feed_22 rfl rfl ?_
    refine Rn.callV (As := [_]) dX9_feed_23 mv_X9_87 (by first | rfl | exact gC0 (by assumption) | exact gL0 (by assumption)) rfl rfl rfl (Nat.le_of_ble_eq_true rfl) (tp_put G _ _ l (by omega) T0 _) (fun E J h => nomatch h.1) (fun v J1 q1 => ?_)
    obtain ⟨e1, a1⟩ := q1
    cases e1
    refine Rn.aload_n dX9_feed_26 rfl rfl ?_
    refine Rn.getR dX9_feed_27 fd_X9_10_8 (by first | rfl | exact gC0 (by assumption) | exact gL0 (by assumption)) rfl ?_
    refine Rn.iload_n dX9_feed_30 rfl rfl ?_
    refine Rn.callV (As := [_]) dX9_feed_31 mv_X9_87 (by first | rfl | exact gC0 (by assumption) | exact gL0 (by assumption)) rfl rfl rfl (Nat.le_of_ble_eq_true rfl) (tp_put G _ _ _ (by omega) a1 _) (fun E J h => nomatch h.1) (fun v J2 q2 => ?_)
    obtain ⟨e1, a2⟩ := q2
    cases e1
    refine Rn.aload_n dX9_feed_34 rfl rfl ?_
    refine Rn.getR dX9_feed_35 fd_X9_10_8 (by first | rfl | exact gC0 (by assumption) | exact gL0 (by assumption)) rfl ?_
    refine Rn.iload_n dX9_feed_38 rfl rfl ?_
    refine Rn.callV (As := [_]) dX9_feed_39 mv_X9_87 (by first | rfl | exact gC0 (by assumption) | exact gL0 (by assumption)) rfl rfl rfl (Nat.le_of_ble_eq_true rfl) (tp_put G _ _ _ (by omega) a2 _) (fun E J h => nomatch h.1) (fun v J3 q3 => ?_)
    obtain ⟨e1, a3⟩ := q3
    cases e1
    refine Rn.aload_n dX9_feed_42 rfl rfl ?_
    refine Rn.getR dX9_feed_43 fd_X9_10_8 (by first | rfl | exact gC0 (by assumption) | exact gL0 (by assumption)) rfl ?_
    refine Rn.iload dX9_feed_46 rfl ?_
    refine Rn.callV (As := [_]) dX9_feed_48 mv_X9_87 (by first | rfl | exact gC0 (by assumption) | exact gL0 (by assumption)) rfl rfl rfl (Nat.le_of_ble_eq_true rfl) (tp_put G _ _ _ (by omega) a3 _) (fun E J h => nomatch h.1) (fun v J4 q4 => ?_)
    obtain ⟨e1, a4⟩ := q4
    cases e1
    refine Rn.aload_n dX9_feed_51 rfl rfl ?_
    refine Rn.getR dX9_feed_52 fd_X9_10_8 (by first | rfl | exact gC0 (by assumption) | exact gL0 (by assumption)) rfl ?_
    refine Rn.iload dX9_feed_55 rfl ?_
    refine Rn.callV (As := [_]) dX9_feed_57 mv_X9_87 (by first | rfl | exact gC0 (by assumption) | exact gL0 (by assumption)) rfl rfl rfl (Nat.le_of_ble_eq_true rfl) (tp_put G _ _ _ (by omega) a4 _) (fun E J h => nomatch h.1) (fun v J5 q5 => ?_)
    obtain ⟨e1, a5⟩ := q5
    cases e1
    refine Rn.aload_n dX9_feed_60 rfl rfl ?_
    refine Rn.getR dX9_feed_61 fd_X9_10_8 (by first | rfl | exact gC0 (by assumption) | exact gL0 (by assumption)) rfl ?_
    refine Rn.getI dX9_feed_64 fd_X9_84_7 (by first | rfl | exact gC0 (by assumption) | exact gL0 (by assumption)) rfl ?_
    exact Rn.iret dX9_feed_67 rfl (⟨_, rfl, a5.2.1, a5.2.2.1, a5.2.2.2, l, hl, e, Or.inr ⟨h1, a5.1, a5.1⟩⟩)
  · refine Rn.iconst (v := (-1)) dX9_feed_16 rfl ?_
    exact Rn.iret dX9_feed_17 rfl (⟨-1, rfl, hB, hX, rfl, l, hl, e, Or.inl ⟨h1, rfl, rfl⟩⟩)
theorem fd_lp {kx : Kx} {b : Nat} {I0 : Hi} (p0 p1 p2 p3 p4 : Int32) (l : Nat) (hl : l + 20 ≤ 400) (kk : ∀ J, TN I0 l J → Rn G GAM mX10_feed kx d b 60 [some (.ref 94), some (.int p0), some (.int p1), some (.int p2), some (.int p3), some (.int p4), some (.int (nI 20))] [] J) : ∀ (m i : Nat), i + m = 20 → ∀ J, TN I0 l J → Rn G GAM mX10_feed kx d b 60 [some (.ref 94), some (.int p0), some (.int p1), some (.int p2), some (.int p3), some (.int p4), some (.int (nI i))] [] J := by
  intro m
  induction m with
  | zero =>
    intro i hi J h
    obtain rfl : i = 20 := by omega
    exact kk J h
  | succ m ih =>
    intro i hi J h
    refine Rn.iload dX10_feed_60 rfl ?_
    refine Rn.bipush (v := (nI 20)) dX10_feed_62 rfl ?_
    refine Rn.icmp_geN dX10_feed_64 106 (fun h9 => by exfalso; omega) (fun _ => ?_)
    refine Rn.aload_n dX10_feed_67 rfl rfl ?_
    refine Rn.getR dX10_feed_68 fd_X10_29_9 (by first | rfl | exact gC0 (by assumption) | exact gL0 (by assumption)) rfl ?_
    refine Rn.aload_n dX10_feed_71 rfl rfl ?_
    refine Rn.getI dX10_feed_72 fd_X10_86_9 (by first | rfl | exact gC0 (by assumption) | exact gL0 (by assumption)) rfl ?_
    refine Rn.topI (nI l) (by exact h.1) ?_
    refine Rn.iload dX10_feed_75 rfl ?_
    refine Rn.iadd dX10_feed_77 ?_
    refine Rn.topI (nI (l + i)) (by exact nI_add l i) ?_
    refine Rn.aload_n dX10_feed_78 rfl rfl ?_
    refine Rn.getR dX10_feed_79 fd_X10_36_9 (by first | rfl | exact gC0 (by assumption) | exact gL0 (by assumption)) rfl ?_
    refine Rn.iload dX10_feed_82 rfl ?_
    refine Rn.iconst (v := (nI 4)) dX10_feed_84 rfl ?_
    refine Rn.idiv dX10_feed_85 (by decide) ?_
    refine Rn.topI (nI (i / 4)) (by exact div4 i (by omega)) ?_
    refine Rn.ialdN dX10_feed_86 (by first | rfl | exact gC1 (by assumption) | exact gC2 (by assumption) | exact gC3 (by assumption) | exact gL1 (by assumption) | exact gL2 (by assumption) | exact gL3 (by assumption) | exact gL4 (by assumption) | exact gL5 (by assumption) | exact gL6 (by assumption)) ?_
    refine Rn.bipush (v := (nI 24)) dX10_feed_87 rfl ?_
    refine Rn.bipush (v := (nI 8)) dX10_feed_89 rfl ?_
    refine Rn.iload dX10_feed_91 rfl ?_
    refine Rn.iconst (v := (nI 4)) dX10_feed_93 rfl ?_
    refine Rn.irem dX10_feed_94 (by decide) ?_
    refine Rn.imul dX10_feed_95 ?_
    refine Rn.isub dX10_feed_96 ?_
    refine Rn.ishr dX10_feed_97 ?_
    refine Rn.i2b dX10_feed_98 ?_
    refine Rn.bastN dX10_feed_99 (by first | rfl | exact gC1 (by assumption) | exact gC2 (by assumption) | exact gC3 (by assumption) | exact gL1 (by assumption) | exact gL2 (by assumption) | exact gL3 (by assumption) | exact gL4 (by assumption) | exact gL5 (by assumption) | exact gL6 (by assumption)) ?_
    refine Rn.iincN dX10_feed_100 rfl (by decide) ?_
    refine Rn.goto 60 dX10_feed_103 (by decide) ?_
    exact ih (i + 1) (by omega) _ (h.up (a := 100) (j := l + i) (by decide) (by decide) (inIv_F _))
theorem mo_feed (p0 p1 p2 p3 p4 : Int32) (hB : BX I) (hX : XM I) : Ct G GAM mX10_feed d 0 [.ref 94, .int p0, .int p1, .int p2, .int p3, .int p4] I (Rv (fun v J => ∃ x, v = some (.int x) ∧ BX J ∧ XM J ∧ J 1 1 = I 1 1 ∧ feedP (I 94 9) (J 94 9) x)) := by
  obtain ⟨l, hl, e⟩ := nI_iv (n := 400) (hB 94 9)
  have h9 : ∀ v, zup I 94 0 v 94 9 = nI l := fun v => by rw [zup_at, upd_ne _ _ (by decide)]; exact e
  have T0 : ∀ v, TN I l (zup I 94 0 v) := fun v => ⟨h9 v, BX.thr hB _, XM.up hX (by decide), by rw [zup_ne _ _ (by decide)]⟩
  refine Ct.mk [some (.ref 94), some (.int p0), some (.int p1), some (.int p2), some (.int p3), some (.int p4), none] ?_
  refine Rn.aload_n dX10_feed_0 rfl rfl ?_
  refine Rn.iconst (v := (nI 0)) dX10_feed_1 rfl ?_
  refine Rn.putI dX10_feed_2 fp_X10_3_9 (by first | rfl | exact gC0 (by assumption) | exact gL0 (by assumption)) rfl ?_
  refine Rn.aload_n dX10_feed_5 rfl rfl ?_
  refine Rn.getI dX10_feed_6 fd_X10_86_9 (by first | rfl | exact gC0 (by assumption) | exact gL0 (by assumption)) rfl ?_
  refine Rn.topI (nI l) (by exact h9 _) ?_
  refine Rn.bipush (v := (nI 20)) dX10_feed_9 rfl ?_
  refine Rn.iadd dX10_feed_11 ?_
  refine Rn.topI (nI (l + 20)) (by exact nI_add l 20) ?_
  refine Rn.sipush (v := (nI 400)) dX10_feed_12 rfl ?_
  refine Rn.icmp_leN dX10_feed_15 20 (fun h1 => ?_) (fun h1 => ?_)
  · refine Rn.aload_n dX10_feed_20 rfl rfl ?_
    refine Rn.getR dX10_feed_21 fd_X10_36_9 (by first | rfl | exact gC0 (by assumption) | exact gL0 (by assumption)) rfl ?_
    refine Rn.iconst (v := (nI 0)) dX10_feed_24 rfl ?_
    refine Rn.iload_n dX10_feed_25 rfl rfl ?_
    refine Rn.iastN dX10_feed_26 (by first | rfl | exact gC1 (by assumption) | exact gC2 (by assumption) | exact gC3 (by assumption) | exact gL1 (by assumption) | exact gL2 (by assumption) | exact gL3 (by assumption) | exact gL4 (by assumption) | exact gL5 (by assumption) | exact gL6 (by assumption)) ?_
    refine Rn.aload_n dX10_feed_27 rfl rfl ?_
    refine Rn.getR dX10_feed_28 fd_X10_36_9 (by first | rfl | exact gC0 (by assumption) | exact gL0 (by assumption)) rfl ?_
    refine Rn.iconst (v := (nI 1)) dX10_feed_31 rfl ?_
    refine Rn.iload_n dX10_feed_32 rfl rfl ?_
    refine Rn.iastN dX10_feed_33 (by first | rfl | exact gC1 (by assumption) | exact gC2 (by assumption) | exact gC3 (by assumption) | exact gL1 (by assumption) | exact gL2 (by assumption) | exact gL3 (by assumption) | exact gL4 (by assumption) | exact gL5 (by assumption) | exact gL6 (by assumption)) ?_
    refine Rn.aload_n dX10_feed_34 rfl rfl ?_
    refine Rn.getR dX10_feed_35 fd_X10_36_9 (by first | rfl | exact gC0 (by assumption) | exact gL0 (by assumption)) rfl ?_
    refine Rn.iconst (v := (nI 2)) dX10_feed_38 rfl ?_
    refine Rn.iload_n dX10_feed_39 rfl rfl ?_
    refine Rn.iastN dX10_feed_40 (by first | rfl | exact gC1 (by assumption) | exact gC2 (by assumption) | exact gC3 (by assumption) | exact gL1 (by assumption) | exact gL2 (by assumption) | exact gL3 (by assumption) | exact gL4 (by assumption) | exact gL5 (by assumption) | exact gL6 (by assumption)) ?_
    refine Rn.aload_n dX10_feed_41 rfl rfl ?_
    refine Rn.getR dX10_feed_42 fd_X10_36_9 (by first | rfl | exact gC0 (by assumption) | exact gL0 (by assumption)) rfl ?_
    refine Rn.iconst (v := (nI 3)) dX10_feed_45 rfl ?_
    refine Rn.iload dX10_feed_46 rfl ?_
    refine Rn.iastN dX10_feed_48 (by first | rfl | exact gC1 (by assumption) | exact gC2 (by assumption) | exact gC3 (by assumption) | exact gL1 (by assumption) | exact gL2 (by assumption) | exact gL3 (by assumption) | exact gL4 (by assumption) | exact gL5 (by assumption) | exact gL6 (by assumption)) ?_
    refine Rn.aload_n dX10_feed_49 rfl rfl ?_
    refine Rn.getR dX10_feed_50 fd_X10_36_9 (by first | rfl | exact gC0 (by assumption) | exact gL0 (by assumption)) rfl ?_
    refine Rn.iconst (v := (nI 4)) dX10_feed_53 rfl ?_
    refine Rn.iload dX10_feed_54 rfl ?_
    refine Rn.iastN dX10_feed_56 (by first | rfl | exact gC1 (by assumption) | exact gC2 (by assumption) | exact gC3 (by assumption) | exact gL1 (by assumption) | exact gL2 (by assumption) | exact gL3 (by assumption) | exact gL4 (by assumption) | exact gL5 (by assumption) | exact gL6 (by assumption)) ?_
    refine Rn.iconst (v := (nI 0)) dX10_feed_57 rfl ?_
    refine Rn.istore dX10_feed_58 (by decide) ?_
    refine Rn.lcl [some (.ref 94), some (.int p0), some (.int p1), some (.int p2), some (.int p3), some (.int p4), some (.int (nI 0))] rfl ?_
    refine fd_lp G d p0 p1 p2 p3 p4 l h1 (fun J hJ => ?_) 20 0 rfl _ (((((T0 _).up (a := 101) (j := 0) (by decide) (by decide) (inIv_F _)).up (a := 101) (j := 1) (by decide) (by decide) (inIv_F _)).up (a := 101) (j := 2) (by decide) (by decide) (inIv_F _)).up (a := 101) (j := 3) (by decide) (by decide) (inIv_F _) |>.up (a := 101) (j := 4) (by decide) (by decide) (inIv_F _))
    refine Rn.iload dX10_feed_60 rfl ?_
    refine Rn.bipush (v := (nI 20)) dX10_feed_62 rfl ?_
    refine Rn.icmp_ge (tgt := 106) dX10_feed_64 (by decide) (fun _ => ?_) (fun h9 => absurd h9 (by decide))
    refine Rn.aload_n dX10_feed_106 rfl rfl ?_
    refine Rn.dup dX10_feed_107 rfl ?_
    refine Rn.getI dX10_feed_108 fd_X10_86_9 (by first | rfl | exact gC0 (by assumption) | exact gL0 (by assumption)) rfl ?_
    refine Rn.topI (nI l) (by exact hJ.1) ?_
    refine Rn.bipush (v := (nI 20)) dX10_feed_111 rfl ?_
    refine Rn.iadd dX10_feed_113 ?_
    refine Rn.topI (nI (l + 20)) (by exact nI_add l 20) ?_
    refine Rn.putI dX10_feed_114 fp_X10_86_9 (by first | rfl | exact gC0 (by assumption) | exact gL0 (by assumption)) rfl ?_
    refine Rn.aload_n dX10_feed_117 rfl rfl ?_
    refine Rn.getI dX10_feed_118 fd_X10_86_9 (by first | rfl | exact gC0 (by assumption) | exact gL0 (by assumption)) rfl ?_
    exact Rn.iret dX10_feed_121 rfl (⟨_, rfl, BX.up (a := 94) (j := 9) hJ.2.1 (iv_nI (n := 400) h1 (by decide)), XM.up hJ.2.2.1 (by decide), by rw [zup_ne _ _ (by decide)]; exact hJ.2.2.2, l, hl, e, Or.inr ⟨h1, by rw [zup_at, upd_at], by rw [zup_at, upd_at]⟩⟩)
  · refine Rn.iconst (v := (-1)) dX10_feed_18 rfl ?_
    exact Rn.iret dX10_feed_19 rfl (⟨-1, rfl, BX.thr hB _, XM.up hX (by decide), by rw [zup_ne _ _ (by decide)], l, hl, e, Or.inl ⟨h1, rfl, by rw [h9]; exact e.symm⟩⟩)
end Tap
theorem feed_both {I J1 J2 : Hi} {r1 r2 : Int32} (hI : LI I) (h1 : BX J1 ∧ XM J1 ∧ J1 94 9 = I 94 9 ∧ feedP (I 1 1) (J1 1 1) r1) (h2 : BX J2 ∧ XM J2 ∧ J2 1 1 = J1 1 1 ∧ feedP (J1 94 9) (J2 94 9) r2) : r1 = r2 ∧ LI J2 := by
  have h3 := h2.2.2.2
  rw [h1.2.2.1, ← hI.2.2] at h3
  obtain ⟨a, b⟩ := h1.2.2.2.eq h3
  exact ⟨a, h2.1, h2.2.1, by rw [h2.2.2.1, b]⟩
theorem end_both {I J1 J2 : Hi} {n r1 r2 : Int32} (hI : LI I) (h1 : BX J1 ∧ XM J1 ∧ J1 94 9 = I 94 9 ∧ endP n (I 1 1) (J1 1 1) r1) (h2 : BX J2 ∧ XM J2 ∧ J2 1 1 = J1 1 1 ∧ endP n (J1 94 9) (J2 94 9) r2) : r1 = r2 ∧ LI J2 := by
  have h3 := h2.2.2.2
  rw [h1.2.2.1, ← hI.2.2] at h3
  obtain ⟨a, b⟩ := h1.2.2.2.eq h3
  exact ⟨a, h2.1, h2.2.1, by rw [h2.2.2.1, b]⟩
