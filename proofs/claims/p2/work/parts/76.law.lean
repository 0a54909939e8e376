theorem dX10_readLawLine_107 : decode cX10_readLawLine 107 = .ok (.aload_n 0, 1) := by decide +kernel
theorem dX10_readLawLine_108 : decode cX10_readLawLine 108 = .ok (.getfield 13, 3) := by decide +kernel
theorem dX10_readLawLine_111 : decode cX10_readLawLine 111 = .ok (.iload_n 2, 1) := by decide +kernel
theorem dX10_readLawLine_112 : decode cX10_readLawLine 112 = .ok (.iconst 2, 1) := by decide +kernel
theorem dX10_readLawLine_113 : decode cX10_readLawLine 113 = .ok (.iadd, 1) := by decide +kernel
theorem dX10_readLawLine_114 : decode cX10_readLawLine 114 = .ok (.aload_n 0, 1) := by decide +kernel
theorem dX10_readLawLine_115 : decode cX10_readLawLine 115 = .ok (.getfield 168, 3) := by decide +kernel
theorem dX10_readLawLine_118 : decode cX10_readLawLine 118 = .ok (.iastore, 1) := by decide +kernel
theorem dX10_readLawLine_119 : decode cX10_readLawLine 119 = .ok (.aload_n 0, 1) := by decide +kernel
theorem dX10_readLawLine_120 : decode cX10_readLawLine 120 = .ok (.iconst 0, 1) := by decide +kernel
theorem dX10_readLawLine_121 : decode cX10_readLawLine 121 = .ok (.putfield 194, 3) := by decide +kernel
theorem dX10_readLawLine_124 : decode cX10_readLawLine 124 = .ok (.aload_n 0, 1) := by decide +kernel
theorem dX10_readLawLine_125 : decode cX10_readLawLine 125 = .ok (.ldc 222, 2) := by decide +kernel
theorem sm_X10_222 : (RX10, 222, "if", 1015) ∈ zSR := by decide +kernel
theorem dX10_readLawLine_127 : decode cX10_readLawLine 127 = .ok (.invokevirtual 139, 3) := by decide +kernel
theorem dX10_readLawLine_130 : decode cX10_readLawLine 130 = .ok (.ifCond .eq 12, 3) := by decide +kernel
theorem dX10_readLawLine_142 : decode cX10_readLawLine 142 = .ok (.aload_n 0, 1) := by decide +kernel
theorem dX10_readLawLine_143 : decode cX10_readLawLine 143 = .ok (.getfield 13, 3) := by decide +kernel
theorem dX10_readLawLine_146 : decode cX10_readLawLine 146 = .ok (.iload_n 2, 1) := by decide +kernel
theorem dX10_readLawLine_147 : decode cX10_readLawLine 147 = .ok (.iconst 3, 1) := by decide +kernel
theorem dX10_readLawLine_148 : decode cX10_readLawLine 148 = .ok (.iadd, 1) := by decide +kernel
theorem dX10_readLawLine_149 : decode cX10_readLawLine 149 = .ok (.aload_n 0, 1) := by decide +kernel
theorem dX10_readLawLine_150 : decode cX10_readLawLine 150 = .ok (.getfield 168, 3) := by decide +kernel
theorem dX10_readLawLine_153 : decode cX10_readLawLine 153 = .ok (.iastore, 1) := by decide +kernel
theorem dX10_readLawLine_154 : decode cX10_readLawLine 154 = .ok (.iconst 1, 1) := by decide +kernel
theorem dX10_readLawLine_155 : decode cX10_readLawLine 155 = .ok (.ireturn, 1) := by decide +kernel
theorem dX10_readLawLine_133 : decode cX10_readLawLine 133 = .ok (.aload_n 0, 1) := by decide +kernel
theorem dX10_readLawLine_134 : decode cX10_readLawLine 134 = .ok (.invokevirtual 197, 3) := by decide +kernel
theorem dX10_readLawLine_137 : decode cX10_readLawLine 137 = .ok (.ifCond .ne 5, 3) := by decide +kernel
theorem dX10_readLawLine_140 : decode cX10_readLawLine 140 = .ok (.iconst 0, 1) := by decide +kernel
theorem dX10_readLawLine_141 : decode cX10_readLawLine 141 = .ok (.ireturn, 1) := by decide +kernel
theorem dX10_readLawLine_65 : decode cX10_readLawLine 65 = .ok (.aload_n 0, 1) := by decide +kernel
theorem dX10_readLawLine_66 : decode cX10_readLawLine 66 = .ok (.getfield 13, 3) := by decide +kernel
theorem dX10_readLawLine_69 : decode cX10_readLawLine 69 = .ok (.iload_n 2, 1) := by decide +kernel
theorem dX10_readLawLine_70 : decode cX10_readLawLine 70 = .ok (.iconst 1, 1) := by decide +kernel
theorem dX10_readLawLine_71 : decode cX10_readLawLine 71 = .ok (.iadd, 1) := by decide +kernel
theorem dX10_readLawLine_72 : decode cX10_readLawLine 72 = .ok (.aload_n 0, 1) := by decide +kernel
theorem dX10_readLawLine_73 : decode cX10_readLawLine 73 = .ok (.getfield 13, 3) := by decide +kernel
theorem dX10_readLawLine_76 : decode cX10_readLawLine 76 = .ok (.iload_n 2, 1) := by decide +kernel
theorem dX10_readLawLine_77 : decode cX10_readLawLine 77 = .ok (.iaload, 1) := by decide +kernel
theorem dX10_readLawLine_78 : decode cX10_readLawLine 78 = .ok (.iconst 2, 1) := by decide +kernel
theorem dX10_readLawLine_79 : decode cX10_readLawLine 79 = .ok (.if_icmp .ne 7, 3) := by decide +kernel
theorem dX10_readLawLine_86 : decode cX10_readLawLine 86 = .ok (.aload_n 0, 1) := by decide +kernel
theorem dX10_readLawLine_87 : decode cX10_readLawLine 87 = .ok (.iconst 0, 1) := by decide +kernel
theorem dX10_readLawLine_88 : decode cX10_readLawLine 88 = .ok (.bipush 60, 2) := by decide +kernel
theorem dX10_readLawLine_90 : decode cX10_readLawLine 90 = .ok (.invokevirtual 121, 3) := by decide +kernel
theorem dX10_readLawLine_93 : decode cX10_readLawLine 93 = .ok (.iastore, 1) := by decide +kernel
theorem dX10_readLawLine_94 : decode cX10_readLawLine 94 = .ok (.aload_n 0, 1) := by decide +kernel
theorem dX10_readLawLine_95 : decode cX10_readLawLine 95 = .ok (.getfield 13, 3) := by decide +kernel
theorem dX10_readLawLine_98 : decode cX10_readLawLine 98 = .ok (.iload_n 2, 1) := by decide +kernel
theorem dX10_readLawLine_99 : decode cX10_readLawLine 99 = .ok (.iconst 1, 1) := by decide +kernel
theorem dX10_readLawLine_100 : decode cX10_readLawLine 100 = .ok (.iadd, 1) := by decide +kernel
theorem dX10_readLawLine_101 : decode cX10_readLawLine 101 = .ok (.iaload, 1) := by decide +kernel
theorem dX10_readLawLine_102 : decode cX10_readLawLine 102 = .ok (.ifCond .ge 5, 3) := by decide +kernel
theorem dX10_readLawLine_105 : decode cX10_readLawLine 105 = .ok (.iconst 0, 1) := by decide +kernel
theorem dX10_readLawLine_106 : decode cX10_readLawLine 106 = .ok (.ireturn, 1) := by decide +kernel
theorem dX10_readLawLine_0 : decode cX10_readLawLine 0 = .ok (.sipush 1227, 3) := by decide +kernel
theorem dX10_readLawLine_3 : decode cX10_readLawLine 3 = .ok (.iconst 4, 1) := by decide +kernel
theorem dX10_readLawLine_4 : decode cX10_readLawLine 4 = .ok (.iload_n 1, 1) := by decide +kernel
theorem dX10_readLawLine_5 : decode cX10_readLawLine 5 = .ok (.imul, 1) := by decide +kernel
theorem dX10_readLawLine_6 : decode cX10_readLawLine 6 = .ok (.iadd, 1) := by decide +kernel
theorem dX10_readLawLine_7 : decode cX10_readLawLine 7 = .ok (.istore_n 2, 1) := by decide +kernel
theorem dX10_readLawLine_8 : decode cX10_readLawLine 8 = .ok (.aload_n 0, 1) := by decide +kernel
theorem dX10_readLawLine_9 : decode cX10_readLawLine 9 = .ok (.getfield 13, 3) := by decide +kernel
theorem dX10_readLawLine_12 : decode cX10_readLawLine 12 = .ok (.iload_n 2, 1) := by decide +kernel
theorem dX10_readLawLine_13 : decode cX10_readLawLine 13 = .ok (.aload_n 0, 1) := by decide +kernel
theorem dX10_readLawLine_14 : decode cX10_readLawLine 14 = .ok (.ldc 218, 2) := by decide +kernel
theorem sm_X10_218 : (RX10, 218, "flow", 1012) ∈ zSR := by decide +kernel
theorem dX10_readLawLine_16 : decode cX10_readLawLine 16 = .ok (.invokevirtual 117, 3) := by decide +kernel
theorem dX10_readLawLine_19 : decode cX10_readLawLine 19 = .ok (.ifCond .eq 7, 3) := by decide +kernel
theorem dX10_readLawLine_22 : decode cX10_readLawLine 22 = .ok (.iconst 0, 1) := by decide +kernel
theorem dX10_readLawLine_23 : decode cX10_readLawLine 23 = .ok (.goto 30, 3) := by decide +kernel
theorem dX10_readLawLine_53 : decode cX10_readLawLine 53 = .ok (.iastore, 1) := by decide +kernel
theorem dX10_readLawLine_54 : decode cX10_readLawLine 54 = .ok (.aload_n 0, 1) := by decide +kernel
theorem dX10_readLawLine_55 : decode cX10_readLawLine 55 = .ok (.getfield 13, 3) := by decide +kernel
theorem dX10_readLawLine_58 : decode cX10_readLawLine 58 = .ok (.iload_n 2, 1) := by decide +kernel
theorem dX10_readLawLine_59 : decode cX10_readLawLine 59 = .ok (.iaload, 1) := by decide +kernel
theorem dX10_readLawLine_60 : decode cX10_readLawLine 60 = .ok (.ifCond .ge 5, 3) := by decide +kernel
theorem dX10_readLawLine_26 : decode cX10_readLawLine 26 = .ok (.aload_n 0, 1) := by decide +kernel
theorem dX10_readLawLine_27 : decode cX10_readLawLine 27 = .ok (.ldc 173, 2) := by decide +kernel
theorem dX10_readLawLine_29 : decode cX10_readLawLine 29 = .ok (.invokevirtual 117, 3) := by decide +kernel
theorem dX10_readLawLine_32 : decode cX10_readLawLine 32 = .ok (.ifCond .eq 7, 3) := by decide +kernel
theorem dX10_readLawLine_35 : decode cX10_readLawLine 35 = .ok (.iconst 1, 1) := by decide +kernel
theorem dX10_readLawLine_36 : decode cX10_readLawLine 36 = .ok (.goto 17, 3) := by decide +kernel
theorem dX10_readLawLine_39 : decode cX10_readLawLine 39 = .ok (.aload_n 0, 1) := by decide +kernel
theorem dX10_readLawLine_40 : decode cX10_readLawLine 40 = .ok (.ldc 220, 2) := by decide +kernel
theorem sm_X10_220 : (RX10, 220, "stick", 1014) ∈ zSR := by decide +kernel
theorem dX10_readLawLine_42 : decode cX10_readLawLine 42 = .ok (.invokevirtual 117, 3) := by decide +kernel
theorem dX10_readLawLine_45 : decode cX10_readLawLine 45 = .ok (.ifCond .eq 7, 3) := by decide +kernel
theorem dX10_readLawLine_52 : decode cX10_readLawLine 52 = .ok (.iconst (-1), 1) := by decide +kernel
theorem dX10_readLawLine_63 : decode cX10_readLawLine 63 = .ok (.iconst 0, 1) := by decide +kernel
theorem dX10_readLawLine_64 : decode cX10_readLawLine 64 = .ok (.ireturn, 1) := by decide +kernel
theorem dX10_readLawLine_48 : decode cX10_readLawLine 48 = .ok (.iconst 2, 1) := by decide +kernel
theorem dX10_readLawLine_49 : decode cX10_readLawLine 49 = .ok (.goto 4, 3) := by decide +kernel
theorem dX10_readLawLine_82 : decode cX10_readLawLine 82 = .ok (.iconst 1, 1) := by decide +kernel
theorem dX10_readLawLine_83 : decode cX10_readLawLine 83 = .ok (.goto 10, 3) := by decide +kernel
theorem dX10_readLine_0 : decode cX10_readLine 0 = .ok (.aload_n 0, 1) := by decide +kernel
theorem dX10_readLine_1 : decode cX10_readLine 1 = .ok (.invokevirtual 114, 3) := by decide +kernel
theorem dX10_readLine_4 : decode cX10_readLine 4 = .ok (.iload_n 2, 1) := by decide +kernel
theorem dX10_readLine_5 : decode cX10_readLine 5 = .ok (.iload_n 1, 1) := by decide +kernel
theorem dX10_readLine_6 : decode cX10_readLine 6 = .ok (.ifCond .eq 8, 3) := by decide +kernel
theorem dX10_readLine_14 : decode cX10_readLine 14 = .ok (.bipush 12, 2) := by decide +kernel
theorem dX10_readLine_16 : decode cX10_readLine 16 = .ok (.if_icmp .ge 29, 3) := by decide +kernel
theorem dX10_readLine_45 : decode cX10_readLine 45 = .ok (.iconst 0, 1) := by decide +kernel
theorem dX10_readLine_46 : decode cX10_readLine 46 = .ok (.ireturn, 1) := by decide +kernel
theorem dX10_readLine_19 : decode cX10_readLine 19 = .ok (.iload_n 1, 1) := by decide +kernel
theorem dX10_readLine_20 : decode cX10_readLine 20 = .ok (.ifCond .eq 13, 3) := by decide +kernel
theorem dX10_readLine_33 : decode cX10_readLine 33 = .ok (.aload_n 0, 1) := by decide +kernel
theorem dX10_readLine_34 : decode cX10_readLine 34 = .ok (.iload_n 2, 1) := by decide +kernel
theorem dX10_readLine_35 : decode cX10_readLine 35 = .ok (.invokevirtual 227, 3) := by decide +kernel
theorem dX10_readLine_38 : decode cX10_readLine 38 = .ok (.ifCond .eq 7, 3) := by decide +kernel
theorem dX10_readLine_41 : decode cX10_readLine 41 = .ok (.iconst 1, 1) := by decide +kernel
theorem dX10_readLine_42 : decode cX10_readLine 42 = .ok (.goto 4, 3) := by decide +kernel
theorem dX10_readAll_28 : decode cX10_readAll 28 = .ok (.aload_n 0, 1) := by decide +kernel
theorem dX10_readAll_29 : decode cX10_readAll 29 = .ok (.iload_n 1, 1) := by decide +kernel
theorem dX10_readAll_30 : decode cX10_readAll 30 = .ok (.iload_n 2, 1) := by decide +kernel
theorem dX10_readAll_31 : decode cX10_readAll 31 = .ok (.invokevirtual 233, 3) := by decide +kernel
theorem dX10_readAll_34 : decode cX10_readAll 34 = .ok (.ifCond .ne 5, 3) := by decide +kernel
theorem dX10_readAll_37 : decode cX10_readAll 37 = .ok (.iconst (-1), 1) := by decide +kernel
theorem dX10_readAll_38 : decode cX10_readAll 38 = .ok (.ireturn, 1) := by decide +kernel
theorem dX10_readAll_39 : decode cX10_readAll 39 = .ok (.aload_n 0, 1) := by decide +kernel
theorem dX10_readAll_40 : decode cX10_readAll 40 = .ok (.invokevirtual 102, 3) := by decide +kernel
theorem dX10_readAll_43 : decode cX10_readAll 43 = .ok (.aload_n 0, 1) := by decide +kernel
theorem dX10_readAll_44 : decode cX10_readAll 44 = .ok (.getfield 89, 3) := by decide +kernel
theorem dX10_readAll_47 : decode cX10_readAll 47 = .ok (.aload_n 0, 1) := by decide +kernel
theorem dX10_readAll_48 : decode cX10_readAll 48 = .ok (.getfield 92, 3) := by decide +kernel
theorem dX10_readAll_51 : decode cX10_readAll 51 = .ok (.if_icmp .ne 7, 3) := by decide +kernel
theorem dX10_readAll_58 : decode cX10_readAll 58 = .ok (.aload_n 0, 1) := by decide +kernel
theorem dX10_readAll_59 : decode cX10_readAll 59 = .ok (.bipush 59, 2) := by decide +kernel
theorem dX10_readAll_61 : decode cX10_readAll 61 = .ok (.bipush 59, 2) := by decide +kernel
theorem dX10_readAll_63 : decode cX10_readAll 63 = .ok (.invokevirtual 95, 3) := by decide +kernel
theorem dX10_readAll_66 : decode cX10_readAll 66 = .ok (.ifCond .ne 5, 3) := by decide +kernel
theorem dX10_readAll_69 : decode cX10_readAll 69 = .ok (.iconst (-1), 1) := by decide +kernel
theorem dX10_readAll_70 : decode cX10_readAll 70 = .ok (.ireturn, 1) := by decide +kernel
theorem dX10_readAll_71 : decode cX10_readAll 71 = .ok (.aload_n 0, 1) := by decide +kernel
theorem dX10_readAll_72 : decode cX10_readAll 72 = .ok (.dup, 1) := by decide +kernel
theorem dX10_readAll_73 : decode cX10_readAll 73 = .ok (.getfield 89, 3) := by decide +kernel
theorem dX10_readAll_76 : decode cX10_readAll 76 = .ok (.iconst 1, 1) := by decide +kernel
theorem dX10_readAll_77 : decode cX10_readAll 77 = .ok (.iadd, 1) := by decide +kernel
theorem dX10_readAll_78 : decode cX10_readAll 78 = .ok (.putfield 89, 3) := by decide +kernel
theorem dX10_readAll_81 : decode cX10_readAll 81 = .ok (.iinc 2 1, 3) := by decide +kernel
theorem dX10_readAll_84 : decode cX10_readAll 84 = .ok (.goto (-56), 3) := by decide +kernel
theorem dX10_readAll_54 : decode cX10_readAll 54 = .ok (.iload_n 2, 1) := by decide +kernel
theorem dX10_readAll_55 : decode cX10_readAll 55 = .ok (.iconst 1, 1) := by decide +kernel
theorem dX10_readAll_56 : decode cX10_readAll 56 = .ok (.iadd, 1) := by decide +kernel
theorem dX10_readAll_57 : decode cX10_readAll 57 = .ok (.ireturn, 1) := by decide +kernel
/-! the reference's reader: the law's lines, and law itself -/
theorem w_len : zsLen.getD 12 0 = 4 ∧ zsLen.getD 13 0 = 4 ∧ zsLen.getD 14 0 = 5 := by decide +kernel
def lineK (V : Nat → Int32) (n s s' : Nat) : Prop := inIv (0, 60) (V (1228 + 4 * n)) ∧ V (1229 + 4 * n) = nI s ∧ V (1230 + 4 * n) = nI s' ∧ (s = s' ∨ seg V s s')
def LL (I : Hi) (p n s : Nat) (V : Nat → Int32) (v : Option Value) (J : Hi) : Prop := ∃ (p' b' q' s' : Nat) (V' : Nat → Int32), J = PS I p' b' q' s' V' ∧ p ≤ p' ∧ p' ≤ 400 ∧ b' ≤ 400 ∧ (∀ j, j < 1227 + 4 * n → V' j = V j) ∧ (∀ j, 1275 ≤ j → j < 1275 + 2 * s → V' j = V j) ∧ (v = some (.int (nI 0)) ∨ (v = some (.int (nI 1)) ∧ n < 12 ∧ s ≤ s' ∧ s' ≤ p' ∧ lineK V' n s s'))
theorem segU {V : Nat → Int32} {s s' n : Nat} {x : Int32} (h : seg V s s') (hn : n < 12) : seg (upd V (1230 + 4 * n) x) s s' := by
  obtain ⟨g1, g2, g3⟩ := h
  have eo : ∀ i, opV (upd V (1230 + 4 * n) x) i = opV V i := fun i => by unfold opV; rw [upd_ne _ _ (by omega)]
  exact ⟨g1, fun i a b => by rw [upd_ne _ _ (by omega), eo i]; exact g2 i a b, fun h q => sgS.congr (fun k a b => eo k) (g3 h q)⟩
section Law
variable (G : Gx) (d : Nat)
theorem ll_tail (I : Hi) (n p s e : Nat) (V : Nat → Int32) (hn : n < 12) (h11 : I 94 11 = nI e) (he : e ≤ 400) (p2 b2 q : Nat) (V2 : Nat → Int32) (h1 : p ≤ p2) (h2 : p2 ≤ 400) (h3 : b2 ≤ 400) (h4 : s + 4 ≤ p2) (h5 : ∀ j, j < 1227 + 4 * n → V2 j = V j) (h6 : ∀ j, 1275 ≤ j → j < 1275 + 2 * s → V2 j = V j) (h7 : inIv (0, 60) (V2 (1228 + 4 * n))) :
    Rn G GAM mX10_readLawLine (kM G GAM (Rv (LL I p n s V))) (d + 30) 0 107 [some (.ref 94), some (.int (nI n)), some (.int (nI (1227 + 4 * n)))] [] (PS I p2 b2 q s V2) := by
  refine Rn.aload_n dX10_readLawLine_107 rfl rfl ?_
  refine Rn.getR dX10_readLawLine_108 fd_X10_13_9 (by first | rfl | exact gC0 (by assumption) | exact gL0 (by assumption)) rfl ?_
  refine Rn.iload_n dX10_readLawLine_111 rfl rfl ?_
  refine Rn.iconst (v := (nI 2)) dX10_readLawLine_112 rfl ?_
  refine Rn.iadd dX10_readLawLine_113 ?_
  refine Rn.aload_n dX10_readLawLine_114 rfl rfl ?_
  refine Rn.getI dX10_readLawLine_115 fd_X10_168_9 (by first | rfl | exact gC0 (by assumption) | exact gL0 (by assumption)) rfl ?_
  refine Rn.topI (nI s) (by rfl) ?_
  refine Rn.secI (nI (1229 + 4 * n)) (by first | rfl | (simp only [nI_add, pk_mul, nI_1]; done) | (simp only [nI_add, pk_mul, nI_1]; congr 1; omega)) ?_
  refine Rn.iastN dX10_readLawLine_118 (by first | rfl | exact gC1 (by assumption) | exact gC2 (by assumption) | exact gC3 (by assumption) | exact gL1 (by assumption) | exact gL2 (by assumption) | exact gL3 (by assumption) | exact gL4 (by assumption) | exact gL5 (by assumption) | exact gL6 (by assumption)) ?_
  refine Rn.hpp _ (PS_95 _ _ _ _ _ _ _ _) ?_
  refine Rn.aload_n dX10_readLawLine_119 rfl rfl ?_
  refine Rn.iconst (v := (nI 0)) dX10_readLawLine_120 rfl ?_
  refine Rn.putI dX10_readLawLine_121 fp_X10_194_9 (by first | rfl | exact gC0 (by assumption) | exact gL0 (by assumption)) rfl ?_
  refine Rn.hpp _ (PS_13 _ _ _ _ _ _ _) ?_
  refine Rn.aload_n dX10_readLawLine_124 rfl rfl ?_
  refine Rn.ldcS dX10_readLawLine_125 sm_X10_222 ?_
  refine Rn.callV (As := [_]) dX10_readLawLine_127 mv_X10_139 (by first | rfl | exact gC0 (by assumption) | exact gL0 (by assumption)) rfl rfl rfl (Nat.le_of_ble_eq_true rfl) (ct_passes G (d + 24) (PS I p2 b2 0 s (upd V2 (1229 + 4 * n) (nI s))) 15 p2 e (by decide) h2 he (by rfl) (by exact h11)) (fun _ _ h => h) (fun v J h => ?_)
  rcases h with ⟨rfl, p3, r1, r2, rfl⟩ | ⟨rfl, p3, b3, r1, r2, r3, rfl⟩
  · refine Rn.hpp _ (PS_PB _ _ _ _ _ _ _ _) ?_
    refine Rn.if_eq (tgt := 142) dX10_readLawLine_130 (by decide) (fun _ => ?_) (fun h9 => absurd h9 (by decide))
    refine Rn.aload_n dX10_readLawLine_142 rfl rfl ?_
    refine Rn.getR dX10_readLawLine_143 fd_X10_13_9 (by first | rfl | exact gC0 (by assumption) | exact gL0 (by assumption)) rfl ?_
    refine Rn.iload_n dX10_readLawLine_146 rfl rfl ?_
    refine Rn.iconst (v := (nI 3)) dX10_readLawLine_147 rfl ?_
    refine Rn.iadd dX10_readLawLine_148 ?_
    refine Rn.aload_n dX10_readLawLine_149 rfl rfl ?_
    refine Rn.getI dX10_readLawLine_150 fd_X10_168_9 (by first | rfl | exact gC0 (by assumption) | exact gL0 (by assumption)) rfl ?_
    refine Rn.topI (nI s) (by rfl) ?_
    refine Rn.secI (nI (1230 + 4 * n)) (by first | rfl | (simp only [nI_add, pk_mul, nI_1]; done) | (simp only [nI_add, pk_mul, nI_1]; congr 1; omega)) ?_
    refine Rn.iastN dX10_readLawLine_153 (by first | rfl | exact gC1 (by assumption) | exact gC2 (by assumption) | exact gC3 (by assumption) | exact gL1 (by assumption) | exact gL2 (by assumption) | exact gL3 (by assumption) | exact gL4 (by assumption) | exact gL5 (by assumption) | exact gL6 (by assumption)) ?_
    refine Rn.hpp _ (PS_95 _ _ _ _ _ _ _ _) ?_
    refine Rn.iconst (v := (nI 1)) dX10_readLawLine_154 rfl ?_
    exact Rn.zret dX10_readLawLine_155 rfl rfl (⟨p3, p3, 0, s, _, rfl, by omega, r2, r2, fun j hj => by rw [upd_ne _ _ (by omega), upd_ne _ _ (by omega)]; exact h5 j hj, fun j a b => by rw [upd_ne _ _ (by omega), upd_ne _ _ (by omega)]; exact h6 j a b, Or.inr ⟨rfl, hn, Nat.le_refl _, by omega, by rw [upd_ne _ _ (by omega), upd_ne _ _ (by omega)]; exact h7, by rw [upd_ne _ _ (by omega), upd_at], upd_at _ _ _, Or.inl rfl⟩⟩)
  · refine Rn.hpp _ (PS_PB _ _ _ _ _ _ _ _) ?_
    refine Rn.if_eq (tgt := 142) dX10_readLawLine_130 (by decide) (fun h9 => absurd h9 (by decide)) (fun _ => ?_)
    refine Rn.aload_n dX10_readLawLine_133 rfl rfl ?_
    refine Rn.callV (As := []) dX10_readLawLine_134 mv_X10_197 (by first | rfl | exact gC0 (by assumption) | exact gL0 (by assumption)) rfl rfl rfl (Nat.le_of_ble_eq_true rfl) (rd_cond0 G d I p3 b3 s e (upd V2 (1229 + 4 * n) (nI s)) h11 he r3 (by omega) (by omega)) (fun _ _ h => h) (fun v J h => ?_)
    obtain ⟨p4, b4, q4, s4, V4, rfl, t1, t2, t3, t4, t5, t6, t7, rfl | ⟨rfl, hq4, t8, t9⟩⟩ := h
    · refine Rn.if_ne (tgt := 142) dX10_readLawLine_137 (by decide) (fun h9 => absurd h9 (by decide)) (fun _ => ?_)
      refine Rn.iconst (v := (nI 0)) dX10_readLawLine_140 rfl ?_
      exact Rn.zret dX10_readLawLine_141 rfl rfl (⟨p4, b4, q4, s4, V4, rfl, by omega, t2, t3, fun j hj => by rw [t7 j (by omega), upd_ne _ _ (by omega)]; exact h5 j hj, fun j a b => by rw [t7 j (by omega), upd_ne _ _ (by omega)]; exact h6 j a b, Or.inl rfl⟩)
    · have t10 := t9.1
      refine Rn.if_ne (tgt := 142) dX10_readLawLine_137 (by decide) (fun _ => ?_) (fun h9 => absurd h9 (by decide))
      refine Rn.aload_n dX10_readLawLine_142 rfl rfl ?_
      refine Rn.getR dX10_readLawLine_143 fd_X10_13_9 (by first | rfl | exact gC0 (by assumption) | exact gL0 (by assumption)) rfl ?_
      refine Rn.iload_n dX10_readLawLine_146 rfl rfl ?_
      refine Rn.iconst (v := (nI 3)) dX10_readLawLine_147 rfl ?_
      refine Rn.iadd dX10_readLawLine_148 ?_
      refine Rn.aload_n dX10_readLawLine_149 rfl rfl ?_
      refine Rn.getI dX10_readLawLine_150 fd_X10_168_9 (by first | rfl | exact gC0 (by assumption) | exact gL0 (by assumption)) rfl ?_
      refine Rn.topI (nI s4) (by rfl) ?_
      refine Rn.secI (nI (1230 + 4 * n)) (by first | rfl | (simp only [nI_add, pk_mul, nI_1]; done) | (simp only [nI_add, pk_mul, nI_1]; congr 1; omega)) ?_
      refine Rn.iastN dX10_readLawLine_153 (by first | rfl | exact gC1 (by assumption) | exact gC2 (by assumption) | exact gC3 (by assumption) | exact gL1 (by assumption) | exact gL2 (by assumption) | exact gL3 (by assumption) | exact gL4 (by assumption) | exact gL5 (by assumption) | exact gL6 (by assumption)) ?_
      refine Rn.hpp _ (PS_95 _ _ _ _ _ _ _ _) ?_
      refine Rn.iconst (v := (nI 1)) dX10_readLawLine_154 rfl ?_
      exact Rn.zret dX10_readLawLine_155 rfl rfl (⟨p4, b4, q4, s4, _, rfl, by omega, t2, t3, fun j hj => by rw [upd_ne _ _ (by omega), t7 j (by omega), upd_ne _ _ (by omega)]; exact h5 j hj, fun j a b => by rw [upd_ne _ _ (by omega), t7 j (by omega), upd_ne _ _ (by omega)]; exact h6 j a b, Or.inr ⟨rfl, hn, t5, by omega, by rw [upd_ne _ _ (by omega), t7 _ (by omega), upd_ne _ _ (by omega)]; exact h7, by rw [upd_ne _ _ (by omega), t7 _ (by omega), upd_at], upd_at _ _ _, Or.inr (segU t9 hn)⟩⟩)
theorem ll_mid (I : Hi) (n p b s e k q : Nat) (V : Nat → Int32) (hn : n < 12) (h11 : I 94 11 = nI e) (he : e ≤ 400) (hp : p ≤ 400) (hb : b ≤ 400) (hs : s + 4 ≤ p) (hk : k < 2) :
    Rn G GAM mX10_readLawLine (kM G GAM (Rv (LL I p n s V))) (d + 30) 0 65 [some (.ref 94), some (.int (nI n)), some (.int (nI (1227 + 4 * n)))] [] (PS I p b q s (upd V (1227 + 4 * n) (nI k))) := by
  refine Rn.aload_n dX10_readLawLine_65 rfl rfl ?_
  refine Rn.getR dX10_readLawLine_66 fd_X10_13_9 (by first | rfl | exact gC0 (by assumption) | exact gL0 (by assumption)) rfl ?_
  refine Rn.iload_n dX10_readLawLine_69 rfl rfl ?_
  refine Rn.iconst (v := (nI 1)) dX10_readLawLine_70 rfl ?_
  refine Rn.iadd dX10_readLawLine_71 ?_
  refine Rn.aload_n dX10_readLawLine_72 rfl rfl ?_
  refine Rn.getR dX10_readLawLine_73 fd_X10_13_9 (by first | rfl | exact gC0 (by assumption) | exact gL0 (by assumption)) rfl ?_
  refine Rn.iload_n dX10_readLawLine_76 rfl rfl ?_
  refine Rn.ialdN dX10_readLawLine_77 (by first | rfl | exact gC1 (by assumption) | exact gC2 (by assumption) | exact gC3 (by assumption) | exact gL1 (by assumption) | exact gL2 (by assumption) | exact gL3 (by assumption) | exact gL4 (by assumption) | exact gL5 (by assumption) | exact gL6 (by assumption)) ?_
  refine Rn.topI (nI k) (by exact upd_at _ _ _) ?_
  refine Rn.iconst (v := (nI 2)) dX10_readLawLine_78 rfl ?_
  refine Rn.icmp_neN dX10_readLawLine_79 86 (fun _ => ?_) (fun h9 => by exfalso; omega)
  refine Rn.aload_n dX10_readLawLine_86 rfl rfl ?_
  refine Rn.iconst (v := (nI 0)) dX10_readLawLine_87 rfl ?_
  refine Rn.bipush (v := (nI 60)) dX10_readLawLine_88 rfl ?_
  refine Rn.callV (As := [_, _]) dX10_readLawLine_90 mv_X10_121 (by first | rfl | exact gC0 (by assumption) | exact gL0 (by assumption)) rfl rfl rfl (Nat.le_of_ble_eq_true rfl) (ct_number G (d + 27) (PS I p b q s (upd V (1227 + 4 * n) (nI k))) _ _ p e hp he (by rfl) (by exact h11)) (fun _ _ h => h) (fun v J h => ?_)
  obtain ⟨p2, b2, q1, q2, q3, rfl, rfl | ⟨x, rfl, h5, h6, h7⟩⟩ := h
  · refine Rn.hpp _ (PS_PB _ _ _ _ _ _ _ _) ?_
    refine Rn.secI (nI (1228 + 4 * n)) (by first | rfl | (simp only [nI_add, pk_mul, nI_1]; done) | (simp only [nI_add, pk_mul, nI_1]; congr 1; omega)) ?_
    refine Rn.iastN dX10_readLawLine_93 (by first | rfl | exact gC1 (by assumption) | exact gC2 (by assumption) | exact gC3 (by assumption) | exact gL1 (by assumption) | exact gL2 (by assumption) | exact gL3 (by assumption) | exact gL4 (by assumption) | exact gL5 (by assumption) | exact gL6 (by assumption)) ?_
    refine Rn.hpp _ (PS_95 _ _ _ _ _ _ _ _) ?_
    refine Rn.aload_n dX10_readLawLine_94 rfl rfl ?_
    refine Rn.getR dX10_readLawLine_95 fd_X10_13_9 (by first | rfl | exact gC0 (by assumption) | exact gL0 (by assumption)) rfl ?_
    refine Rn.iload_n dX10_readLawLine_98 rfl rfl ?_
    refine Rn.iconst (v := (nI 1)) dX10_readLawLine_99 rfl ?_
    refine Rn.iadd dX10_readLawLine_100 ?_
    refine Rn.topI (nI (1228 + 4 * n)) (by first | rfl | (simp only [nI_add, pk_mul, nI_1]; done) | (simp only [nI_add, pk_mul, nI_1]; congr 1; omega)) ?_
    refine Rn.ialdN dX10_readLawLine_101 (by first | rfl | exact gC1 (by assumption) | exact gC2 (by assumption) | exact gC3 (by assumption) | exact gL1 (by assumption) | exact gL2 (by assumption) | exact gL3 (by assumption) | exact gL4 (by assumption) | exact gL5 (by assumption) | exact gL6 (by assumption)) ?_
    refine Rn.topI (-1) (by exact upd_at _ _ _) ?_
    refine Rn.if_ge (tgt := 107) dX10_readLawLine_102 (by decide) (fun h9 => by exfalso; exact absurd h9 (by decide)) (fun _ => ?_)
    refine Rn.iconst (v := (nI 0)) dX10_readLawLine_105 rfl ?_
    exact Rn.zret dX10_readLawLine_106 rfl rfl (⟨p2, b2, q, s, _, rfl, by omega, q3, by omega, fun j hj => by rw [upd_ne _ _ (by omega), upd_ne _ _ (by omega)], fun j a b => by rw [upd_ne _ _ (by omega), upd_ne _ _ (by omega)], Or.inl rfl⟩)
  · refine Rn.hpp _ (PS_PB _ _ _ _ _ _ _ _) ?_
    refine Rn.secI (nI (1228 + 4 * n)) (by first | rfl | (simp only [nI_add, pk_mul, nI_1]; done) | (simp only [nI_add, pk_mul, nI_1]; congr 1; omega)) ?_
    refine Rn.iastN dX10_readLawLine_93 (by first | rfl | exact gC1 (by assumption) | exact gC2 (by assumption) | exact gC3 (by assumption) | exact gL1 (by assumption) | exact gL2 (by assumption) | exact gL3 (by assumption) | exact gL4 (by assumption) | exact gL5 (by assumption) | exact gL6 (by assumption)) ?_
    refine Rn.hpp _ (PS_95 _ _ _ _ _ _ _ _) ?_
    refine Rn.aload_n dX10_readLawLine_94 rfl rfl ?_
    refine Rn.getR dX10_readLawLine_95 fd_X10_13_9 (by first | rfl | exact gC0 (by assumption) | exact gL0 (by assumption)) rfl ?_
    refine Rn.iload_n dX10_readLawLine_98 rfl rfl ?_
    refine Rn.iconst (v := (nI 1)) dX10_readLawLine_99 rfl ?_
    refine Rn.iadd dX10_readLawLine_100 ?_
    refine Rn.topI (nI (1228 + 4 * n)) (by first | rfl | (simp only [nI_add, pk_mul, nI_1]; done) | (simp only [nI_add, pk_mul, nI_1]; congr 1; omega)) ?_
    refine Rn.ialdN dX10_readLawLine_101 (by first | rfl | exact gC1 (by assumption) | exact gC2 (by assumption) | exact gC3 (by assumption) | exact gL1 (by assumption) | exact gL2 (by assumption) | exact gL3 (by assumption) | exact gL4 (by assumption) | exact gL5 (by assumption) | exact gL6 (by assumption)) ?_
    refine Rn.topI (x) (by exact upd_at _ _ _) ?_
    refine Rn.if_ge (tgt := 107) dX10_readLawLine_102 (by decide) (fun _ => ?_) (fun h9 => by exfalso; exact h9 h6)
    exact ll_tail G d I n p s e V hn h11 he p2 b2 q _ (by omega) q3 (by omega) (by omega) (fun j hj => by rw [upd_ne _ _ (by omega), upd_ne _ _ (by omega)]) (fun j a b => by rw [upd_ne _ _ (by omega), upd_ne _ _ (by omega)]) (by
      rw [upd_at]
      have a1 := Int32.le_iff_toInt_le.mp h6
      have a2 := Int32.le_iff_toInt_le.mp h7
      exact ⟨a1, a2⟩)
theorem ct_lawLine (I : Hi) (n p b s e q : Nat) (V : Nat → Int32) (hn : n < 12) (h11 : I 94 11 = nI e) (he : e ≤ 400) (hp : p ≤ 400) (hb : b ≤ p) (hs : s ≤ b) : Ct G GAM mX10_readLawLine (d + 30) 0 [.ref 94, .int (nI n)] (PS I p b q s V) (Rv (LL I p n s V)) := by
  obtain ⟨w1, w2, w3⟩ := w_len
  refine Ct.mk [some (.ref 94), some (.int (nI n)), none] ?_
  refine Rn.sipush (v := (nI 1227)) dX10_readLawLine_0 rfl ?_
  refine Rn.iconst (v := (nI 4)) dX10_readLawLine_3 rfl ?_
  refine Rn.iload_n dX10_readLawLine_4 rfl rfl ?_
  refine Rn.imul dX10_readLawLine_5 ?_
  refine Rn.iadd dX10_readLawLine_6 ?_
  refine Rn.topI (nI (1227 + 4 * n)) (by simp only [pk_mul, nI_add]) ?_
  refine Rn.istore_n dX10_readLawLine_7 rfl (by decide) ?_
  refine Rn.aload_n dX10_readLawLine_8 rfl rfl ?_
  refine Rn.getR dX10_readLawLine_9 fd_X10_13_9 (by first | rfl | exact gC0 (by assumption) | exact gL0 (by assumption)) rfl ?_
  refine Rn.iload_n dX10_readLawLine_12 rfl rfl ?_
  refine Rn.aload_n dX10_readLawLine_13 rfl rfl ?_
  refine Rn.ldcS dX10_readLawLine_14 sm_X10_218 ?_
  refine Rn.callV (As := [_]) dX10_readLawLine_16 mv_X10_117 (by first | rfl | exact gC0 (by assumption) | exact gL0 (by assumption)) rfl rfl rfl (Nat.le_of_ble_eq_true rfl) (ct_isWord G (d + 25) (PS I p b q s V) 12 p b (by decide) hp (by omega) (by rfl) (by rfl)) (fun _ _ h => h) (fun v J h => ?_)
  obtain ⟨rfl, rfl | ⟨rfl, h4⟩⟩ := h
  rotate_left
  · refine Rn.if_eq (tgt := 26) dX10_readLawLine_19 (by decide) (fun h9 => absurd h9 (by decide)) (fun _ => ?_)
    refine Rn.iconst (v := (nI 0)) dX10_readLawLine_22 rfl ?_
    refine Rn.goto 53 dX10_readLawLine_23 (by decide) ?_
    refine Rn.iastN dX10_readLawLine_53 (by first | rfl | exact gC1 (by assumption) | exact gC2 (by assumption) | exact gC3 (by assumption) | exact gL1 (by assumption) | exact gL2 (by assumption) | exact gL3 (by assumption) | exact gL4 (by assumption) | exact gL5 (by assumption) | exact gL6 (by assumption)) ?_
    refine Rn.hpp _ (PS_95 _ _ _ _ _ _ _ _) ?_
    refine Rn.aload_n dX10_readLawLine_54 rfl rfl ?_
    refine Rn.getR dX10_readLawLine_55 fd_X10_13_9 (by first | rfl | exact gC0 (by assumption) | exact gL0 (by assumption)) rfl ?_
    refine Rn.iload_n dX10_readLawLine_58 rfl rfl ?_
    refine Rn.ialdN dX10_readLawLine_59 (by first | rfl | exact gC1 (by assumption) | exact gC2 (by assumption) | exact gC3 (by assumption) | exact gL1 (by assumption) | exact gL2 (by assumption) | exact gL3 (by assumption) | exact gL4 (by assumption) | exact gL5 (by assumption) | exact gL6 (by assumption)) ?_
    refine Rn.topI (nI 0) (by exact upd_at _ _ _) ?_
    refine Rn.if_ge (tgt := 65) dX10_readLawLine_60 (by decide) (fun _ => ?_) (fun h9 => absurd h9 (by decide))
    exact ll_mid G d I n p b s e 0 q V hn h11 he hp (by omega) (by omega) (by decide)
  refine Rn.if_eq (tgt := 26) dX10_readLawLine_19 (by decide) (fun _ => ?_) (fun h9 => absurd h9 (by decide))
  refine Rn.aload_n dX10_readLawLine_26 rfl rfl ?_
  refine Rn.ldcS dX10_readLawLine_27 sm_X10_173 ?_
  refine Rn.callV (As := [_]) dX10_readLawLine_29 mv_X10_117 (by first | rfl | exact gC0 (by assumption) | exact gL0 (by assumption)) rfl rfl rfl (Nat.le_of_ble_eq_true rfl) (ct_isWord G (d + 25) (PS I p b q s V) 13 p b (by decide) hp (by omega) (by rfl) (by rfl)) (fun _ _ h => h) (fun v J h => ?_)
  obtain ⟨rfl, rfl | ⟨rfl, h4⟩⟩ := h
  rotate_left
  · refine Rn.if_eq (tgt := 39) dX10_readLawLine_32 (by decide) (fun h9 => absurd h9 (by decide)) (fun _ => ?_)
    refine Rn.iconst (v := (nI 1)) dX10_readLawLine_35 rfl ?_
    refine Rn.goto 53 dX10_readLawLine_36 (by decide) ?_
    refine Rn.iastN dX10_readLawLine_53 (by first | rfl | exact gC1 (by assumption) | exact gC2 (by assumption) | exact gC3 (by assumption) | exact gL1 (by assumption) | exact gL2 (by assumption) | exact gL3 (by assumption) | exact gL4 (by assumption) | exact gL5 (by assumption) | exact gL6 (by assumption)) ?_
    refine Rn.hpp _ (PS_95 _ _ _ _ _ _ _ _) ?_
    refine Rn.aload_n dX10_readLawLine_54 rfl rfl ?_
    refine Rn.getR dX10_readLawLine_55 fd_X10_13_9 (by first | rfl | exact gC0 (by assumption) | exact gL0 (by assumption)) rfl ?_
    refine Rn.iload_n dX10_readLawLine_58 rfl rfl ?_
    refine Rn.ialdN dX10_readLawLine_59 (by first | rfl | exact gC1 (by assumption) | exact gC2 (by assumption) | exact gC3 (by assumption) | exact gL1 (by assumption) | exact gL2 (by assumption) | exact gL3 (by assumption) | exact gL4 (by assumption) | exact gL5 (by assumption) | exact gL6 (by assumption)) ?_
    refine Rn.topI (nI 1) (by exact upd_at _ _ _) ?_
    refine Rn.if_ge (tgt := 65) dX10_readLawLine_60 (by decide) (fun _ => ?_) (fun h9 => absurd h9 (by decide))
    exact ll_mid G d I n p b s e 1 q V hn h11 he hp (by omega) (by omega) (by decide)
  refine Rn.if_eq (tgt := 39) dX10_readLawLine_32 (by decide) (fun _ => ?_) (fun h9 => absurd h9 (by decide))
  refine Rn.aload_n dX10_readLawLine_39 rfl rfl ?_
  refine Rn.ldcS dX10_readLawLine_40 sm_X10_220 ?_
  refine Rn.callV (As := [_]) dX10_readLawLine_42 mv_X10_117 (by first | rfl | exact gC0 (by assumption) | exact gL0 (by assumption)) rfl rfl rfl (Nat.le_of_ble_eq_true rfl) (ct_isWord G (d + 25) (PS I p b q s V) 14 p b (by decide) hp (by omega) (by rfl) (by rfl)) (fun _ _ h => h) (fun v J h => ?_)
  obtain ⟨rfl, rfl | ⟨rfl, h4⟩⟩ := h
  · refine Rn.if_eq (tgt := 52) dX10_readLawLine_45 (by decide) (fun _ => ?_) (fun h9 => absurd h9 (by decide))
    refine Rn.iconst (v := (-1)) dX10_readLawLine_52 rfl ?_
    refine Rn.iastN dX10_readLawLine_53 (by first | rfl | exact gC1 (by assumption) | exact gC2 (by assumption) | exact gC3 (by assumption) | exact gL1 (by assumption) | exact gL2 (by assumption) | exact gL3 (by assumption) | exact gL4 (by assumption) | exact gL5 (by assumption) | exact gL6 (by assumption)) ?_
    refine Rn.hpp _ (PS_95 _ _ _ _ _ _ _ _) ?_
    refine Rn.aload_n dX10_readLawLine_54 rfl rfl ?_
    refine Rn.getR dX10_readLawLine_55 fd_X10_13_9 (by first | rfl | exact gC0 (by assumption) | exact gL0 (by assumption)) rfl ?_
    refine Rn.iload_n dX10_readLawLine_58 rfl rfl ?_
    refine Rn.ialdN dX10_readLawLine_59 (by first | rfl | exact gC1 (by assumption) | exact gC2 (by assumption) | exact gC3 (by assumption) | exact gL1 (by assumption) | exact gL2 (by assumption) | exact gL3 (by assumption) | exact gL4 (by assumption) | exact gL5 (by assumption) | exact gL6 (by assumption)) ?_
    refine Rn.topI (-1) (by exact upd_at _ _ _) ?_
    refine Rn.if_ge (tgt := 65) dX10_readLawLine_60 (by decide) (fun h9 => by exfalso; exact absurd h9 (by decide)) (fun _ => ?_)
    refine Rn.iconst (v := (nI 0)) dX10_readLawLine_63 rfl ?_
    exact Rn.zret dX10_readLawLine_64 rfl rfl (⟨p, b, q, s, _, rfl, Nat.le_refl _, hp, by omega, fun j hj => by rw [upd_ne _ _ (by omega)], fun j a b => by rw [upd_ne _ _ (by omega)], Or.inl rfl⟩)
  · refine Rn.if_eq (tgt := 52) dX10_readLawLine_45 (by decide) (fun h9 => absurd h9 (by decide)) (fun _ => ?_)
    refine Rn.iconst (v := (nI 2)) dX10_readLawLine_48 rfl ?_
    refine Rn.goto 53 dX10_readLawLine_49 (by decide) ?_
    refine Rn.iastN dX10_readLawLine_53 (by first | rfl | exact gC1 (by assumption) | exact gC2 (by assumption) | exact gC3 (by assumption) | exact gL1 (by assumption) | exact gL2 (by assumption) | exact gL3 (by assumption) | exact gL4 (by assumption) | exact gL5 (by assumption) | exact gL6 (by assumption)) ?_
    refine Rn.hpp _ (PS_95 _ _ _ _ _ _ _ _) ?_
    refine Rn.aload_n dX10_readLawLine_54 rfl rfl ?_
    refine Rn.getR dX10_readLawLine_55 fd_X10_13_9 (by first | rfl | exact gC0 (by assumption) | exact gL0 (by assumption)) rfl ?_
    refine Rn.iload_n dX10_readLawLine_58 rfl rfl ?_
    refine Rn.ialdN dX10_readLawLine_59 (by first | rfl | exact gC1 (by assumption) | exact gC2 (by assumption) | exact gC3 (by assumption) | exact gL1 (by assumption) | exact gL2 (by assumption) | exact gL3 (by assumption) | exact gL4 (by assumption) | exact gL5 (by assumption) | exact gL6 (by assumption)) ?_
    refine Rn.topI (nI 2) (by exact upd_at _ _ _) ?_
    refine Rn.if_ge (tgt := 65) dX10_readLawLine_60 (by decide) (fun _ => ?_) (fun h9 => absurd h9 (by decide))
    refine Rn.aload_n dX10_readLawLine_65 rfl rfl ?_
    refine Rn.getR dX10_readLawLine_66 fd_X10_13_9 (by first | rfl | exact gC0 (by assumption) | exact gL0 (by assumption)) rfl ?_
    refine Rn.iload_n dX10_readLawLine_69 rfl rfl ?_
    refine Rn.iconst (v := (nI 1)) dX10_readLawLine_70 rfl ?_
    refine Rn.iadd dX10_readLawLine_71 ?_
    refine Rn.aload_n dX10_readLawLine_72 rfl rfl ?_
    refine Rn.getR dX10_readLawLine_73 fd_X10_13_9 (by first | rfl | exact gC0 (by assumption) | exact gL0 (by assumption)) rfl ?_
    refine Rn.iload_n dX10_readLawLine_76 rfl rfl ?_
    refine Rn.ialdN dX10_readLawLine_77 (by first | rfl | exact gC1 (by assumption) | exact gC2 (by assumption) | exact gC3 (by assumption) | exact gL1 (by assumption) | exact gL2 (by assumption) | exact gL3 (by assumption) | exact gL4 (by assumption) | exact gL5 (by assumption) | exact gL6 (by assumption)) ?_
    refine Rn.topI (nI 2) (by exact upd_at _ _ _) ?_
    refine Rn.iconst (v := (nI 2)) dX10_readLawLine_78 rfl ?_
    refine Rn.icmp_ne (tgt := 86) dX10_readLawLine_79 (by decide) (fun h9 => absurd h9 (by decide)) (fun _ => ?_)
    refine Rn.iconst (v := (nI 1)) dX10_readLawLine_82 rfl ?_
    refine Rn.goto 93 dX10_readLawLine_83 (by decide) ?_
    refine Rn.secI (nI (1228 + 4 * n)) (by first | rfl | (simp only [nI_add, pk_mul, nI_1]; done) | (simp only [nI_add, pk_mul, nI_1]; congr 1; omega)) ?_
    refine Rn.iastN dX10_readLawLine_93 (by first | rfl | exact gC1 (by assumption) | exact gC2 (by assumption) | exact gC3 (by assumption) | exact gL1 (by assumption) | exact gL2 (by assumption) | exact gL3 (by assumption) | exact gL4 (by assumption) | exact gL5 (by assumption) | exact gL6 (by assumption)) ?_
    refine Rn.hpp _ (PS_95 _ _ _ _ _ _ _ _) ?_
    refine Rn.aload_n dX10_readLawLine_94 rfl rfl ?_
    refine Rn.getR dX10_readLawLine_95 fd_X10_13_9 (by first | rfl | exact gC0 (by assumption) | exact gL0 (by assumption)) rfl ?_
    refine Rn.iload_n dX10_readLawLine_98 rfl rfl ?_
    refine Rn.iconst (v := (nI 1)) dX10_readLawLine_99 rfl ?_
    refine Rn.iadd dX10_readLawLine_100 ?_
    refine Rn.topI (nI (1228 + 4 * n)) (by first | rfl | (simp only [nI_add, pk_mul, nI_1]; done) | (simp only [nI_add, pk_mul, nI_1]; congr 1; omega)) ?_
    refine Rn.ialdN dX10_readLawLine_101 (by first | rfl | exact gC1 (by assumption) | exact gC2 (by assumption) | exact gC3 (by assumption) | exact gL1 (by assumption) | exact gL2 (by assumption) | exact gL3 (by assumption) | exact gL4 (by assumption) | exact gL5 (by assumption) | exact gL6 (by assumption)) ?_
    refine Rn.topI (nI 1) (by exact upd_at _ _ _) ?_
    refine Rn.if_ge (tgt := 107) dX10_readLawLine_102 (by decide) (fun _ => ?_) (fun h9 => absurd h9 (by decide))
    exact ll_tail G d I n p s e V hn h11 he p b q _ (Nat.le_refl _) hp (by omega) (by omega) (fun j hj => by rw [upd_ne _ _ (by omega), upd_ne _ _ (by omega)]) (fun j a b => by rw [upd_ne _ _ (by omega), upd_ne _ _ (by omega)]) (by rw [upd_at]; exact iv_nI (n := 60) (by decide) (by decide))
theorem ct_lineL (I : Hi) (n p b s e q : Nat) (V : Nat → Int32) (hn : n < 1000) (h11 : I 94 11 = nI e) (he : e ≤ 400) (hp : p ≤ 400) (hb : b ≤ 400) (hs : s ≤ p) : Ct G GAM mX10_readLine (d + 31) 0 [.ref 94, .int (nI 0), .int (nI n)] (PS I p b q s V) (Rv (LL I p n s V)) := by
  refine Ct.mk [some (.ref 94), some (.int (nI 0)), some (.int (nI n))] ?_
  refine Rn.aload_n dX10_readLine_0 rfl rfl ?_
  refine Rn.callV (As := []) dX10_readLine_1 mv_X10_114 (by first | rfl | exact gC0 (by assumption) | exact gL0 (by assumption)) rfl rfl rfl (Nat.le_of_ble_eq_true rfl) (ct_letters G (d + 28) (PS I p b q s V) p e hp he (by rfl) (by exact h11)) (fun _ _ h => h) (fun v J h => ?_)
  obtain ⟨rfl, p1, b1, q1, q2, q3, rfl⟩ := h
  refine Rn.hpp _ (PS_PB _ _ _ _ _ _ _ _) ?_
  refine Rn.iload_n dX10_readLine_4 rfl rfl ?_
  refine Rn.iload_n dX10_readLine_5 rfl rfl ?_
  refine Rn.if_eq (tgt := 14) dX10_readLine_6 (by decide) (fun _ => ?_) (fun h9 => absurd h9 (by decide))
  refine Rn.bipush (v := (nI 12)) dX10_readLine_14 rfl ?_
  refine Rn.icmp_geN dX10_readLine_16 45 (fun h1 => ?_) (fun h1 => ?_)
  · refine Rn.iconst (v := (nI 0)) dX10_readLine_45 rfl ?_
    exact Rn.zret dX10_readLine_46 rfl rfl (⟨p1, b1, q, s, V, rfl, by omega, q3, by omega, fun _ _ => rfl, fun _ _ _ => rfl, Or.inl rfl⟩)
  · refine Rn.iload_n dX10_readLine_19 rfl rfl ?_
    refine Rn.if_eq (tgt := 33) dX10_readLine_20 (by decide) (fun _ => ?_) (fun h9 => absurd h9 (by decide))
    refine Rn.aload_n dX10_readLine_33 rfl rfl ?_
    refine Rn.iload_n dX10_readLine_34 rfl rfl ?_
    refine Rn.callV (As := [_]) dX10_readLine_35 mv_X10_227 (by first | rfl | exact gC0 (by assumption) | exact gL0 (by assumption)) rfl rfl rfl (Nat.le_of_ble_eq_true rfl) (ct_lawLine G d I n p1 b1 s e q V (by omega) h11 he q3 q2 (by omega)) (fun _ _ h => h) (fun v J h => ?_)
    obtain ⟨p2, b2, r2, s2, V2, rfl, t1, t2, t3, t4, t5, rfl | ⟨rfl, t6⟩⟩ := h
    · refine Rn.if_eq (tgt := 45) dX10_readLine_38 (by decide) (fun _ => ?_) (fun h9 => absurd h9 (by decide))
      refine Rn.iconst (v := (nI 0)) dX10_readLine_45 rfl ?_
      exact Rn.zret dX10_readLine_46 rfl rfl (⟨p2, b2, r2, s2, V2, rfl, by omega, t2, t3, t4, t5, Or.inl rfl⟩)
    · refine Rn.if_eq (tgt := 45) dX10_readLine_38 (by decide) (fun h9 => absurd h9 (by decide)) (fun _ => ?_)
      refine Rn.iconst (v := (nI 1)) dX10_readLine_41 rfl ?_
      refine Rn.goto 46 dX10_readLine_42 (by decide) ?_
      exact Rn.zret dX10_readLine_46 rfl rfl (⟨p2, b2, r2, s2, V2, rfl, by omega, t2, t3, t4, t5, Or.inr ⟨rfl, t6⟩⟩)
/-- n lines and s steps are written -/
def LN (V : Nat → Int32) (n s : Nat) : Prop := (∀ m, m < n → ∃ bg en, lineK V m bg en ∧ bg ≤ en ∧ en ≤ s) ∧ ∀ i, i < s → V (1275 + 2 * i) = nI (opV V i)
theorem lineK.of {V V' : Nat → Int32} {m bg en s : Nat} (hm : m < 12) (hs : en ≤ s) (h : lineK V m bg en) (h1 : ∀ j, j < 1227 + 4 * (m + 1) → V' j = V j) (h2 : ∀ j, 1275 ≤ j → j < 1275 + 2 * s → V' j = V j) : lineK V' m bg en := by
  obtain ⟨a1, a2, a3, a4⟩ := h
  refine ⟨by rw [h1 _ (by omega)]; exact a1, by rw [h1 _ (by omega)]; exact a2, by rw [h1 _ (by omega)]; exact a3, a4.imp id (fun g => ?_)⟩
  obtain ⟨g1, g2, g3⟩ := g
  have eo : ∀ i, i < en → opV V' i = opV V i := fun i hi => by unfold opV; rw [h2 _ (by omega) (by omega)]
  exact ⟨g1, fun i a b => by rw [h2 _ (by omega) (by omega), eo i b]; exact g2 i a b, fun h q => sgS.congr (fun k a b => eo k (by omega)) (g3 h q)⟩
theorem LN.next {V V' : Nat → Int32} {n s s' : Nat} (hn : n < 12) (h : LN V n s) (h1 : ∀ j, j < 1227 + 4 * n → V' j = V j) (h2 : ∀ j, 1275 ≤ j → j < 1275 + 2 * s → V' j = V j) (hs : s ≤ s') (hl : lineK V' n s s') : LN V' (n + 1) s' := by
  refine ⟨fun m hm => ?_, fun i hi => ?_⟩
  · by_cases e : m = n
    · subst e
      exact ⟨s, s', hl, hs, Nat.le_refl _⟩
    · obtain ⟨bg, en, a, b, c⟩ := h.1 m (by omega)
      exact ⟨bg, en, a.of (by omega) c (fun j hj => h1 j (by omega)) h2, b, by omega⟩
  · by_cases e : i < s
    · have := h.2 i e
      unfold opV
      rw [h2 _ (by omega) (by omega)]
      exact this
    · rcases hl.2.2.2 with q | q
      · omega
      · exact q.2.1 i (by omega) hi
def RA (I : Hi) (V : Nat → Int32) (v : Option Value) (J : Hi) : Prop := ∃ (p b q s : Nat) (V' : Nat → Int32), J = PS I p b q s V' ∧ p ≤ 400 ∧ b ≤ 400 ∧ (∀ j, j < 1226 → V' j = V j) ∧ (v = some (.int (-1)) ∨ ∃ n, v = some (.int (nI n)) ∧ n ≤ 12 ∧ s ≤ 400 ∧ LN V' n s)
theorem lp_readAll (I : Hi) (e : Nat) (V0 : Nat → Int32) (h11 : I 94 11 = nI e) (he : e ≤ 400) : ∀ (m n p b q s : Nat) (V : Nat → Int32), n + m = 12 → p ≤ 400 → b ≤ 400 → s ≤ p → LN V n s → (∀ j, j < 1226 → V j = V0 j) → Rn G GAM mX10_readAll (kM G GAM (Rv (RA I V0))) (d + 32) 0 28 [some (.ref 94), some (.int (nI 0)), some (.int (nI n))] [] (PS I p b q s V) := by
  intro m
  induction m with
  | zero =>
    intro n p b q s V hn hp hb hs hL hV
    refine Rn.aload_n dX10_readAll_28 rfl rfl ?_
    refine Rn.iload_n dX10_readAll_29 rfl rfl ?_
    refine Rn.iload_n dX10_readAll_30 rfl rfl ?_
    refine Rn.callV (As := [_, _]) dX10_readAll_31 mv_X10_233 (by first | rfl | exact gC0 (by assumption) | exact gL0 (by assumption)) rfl rfl rfl (Nat.le_of_ble_eq_true rfl) (ct_lineL G d I n p b s e q V (by omega) h11 he hp hb hs) (fun _ _ h => h) (fun v J h => ?_)
    obtain ⟨p2, b2, r2, s2, V2, rfl, t1, t2, t3, t4, t5, rfl | ⟨rfl, t6, t7, t8, t9⟩⟩ := h
    · refine Rn.if_ne (tgt := 39) dX10_readAll_34 (by decide) (fun h9 => absurd h9 (by decide)) (fun _ => ?_)
      refine Rn.iconst (v := (-1)) dX10_readAll_37 rfl ?_
      exact Rn.iret dX10_readAll_38 rfl (⟨p2, b2, r2, s2, V2, rfl, t2, t3, fun j hj => (t4 j (by omega)).trans (hV j hj), Or.inl rfl⟩)
    · exact absurd t6 (by omega)
  | succ m ih =>
    intro n p b q s V hn hp hb hs hL hV
    refine Rn.aload_n dX10_readAll_28 rfl rfl ?_
    refine Rn.iload_n dX10_readAll_29 rfl rfl ?_
    refine Rn.iload_n dX10_readAll_30 rfl rfl ?_
    refine Rn.callV (As := [_, _]) dX10_readAll_31 mv_X10_233 (by first | rfl | exact gC0 (by assumption) | exact gL0 (by assumption)) rfl rfl rfl (Nat.le_of_ble_eq_true rfl) (ct_lineL G d I n p b s e q V (by omega) h11 he hp hb hs) (fun _ _ h => h) (fun v J h => ?_)
    obtain ⟨p2, b2, r2, s2, V2, rfl, t1, t2, t3, t4, t5, rfl | ⟨rfl, t6, t7, t8, t9⟩⟩ := h
    · refine Rn.if_ne (tgt := 39) dX10_readAll_34 (by decide) (fun h9 => absurd h9 (by decide)) (fun _ => ?_)
      refine Rn.iconst (v := (-1)) dX10_readAll_37 rfl ?_
      exact Rn.iret dX10_readAll_38 rfl (⟨p2, b2, r2, s2, V2, rfl, t2, t3, fun j hj => (t4 j (by omega)).trans (hV j hj), Or.inl rfl⟩)
    · have hL2 := hL.next t6 t4 t5 t7 t9
      have hV2 : ∀ j, j < 1226 → V2 j = V0 j := fun j hj => (t4 j (by omega)).trans (hV j hj)
      refine Rn.if_ne (tgt := 39) dX10_readAll_34 (by decide) (fun _ => ?_) (fun h9 => absurd h9 (by decide))
      refine Rn.aload_n dX10_readAll_39 rfl rfl ?_
      refine Rn.callV (As := []) dX10_readAll_40 mv_X10_102 (by first | rfl | exact gC0 (by assumption) | exact gL0 (by assumption)) rfl rfl rfl (Nat.le_of_ble_eq_true rfl) (ct_blanks G (d + 30) (PS I p2 b2 r2 s2 V2) p2 e t2 he (by rfl) (by exact h11)) (fun _ _ h => h) (fun v J h => ?_)
      obtain ⟨rfl, p3, r3, r4, rfl⟩ := h
      refine Rn.hpp _ (PS_PB _ _ _ _ _ _ _ _) ?_
      refine Rn.aload_n dX10_readAll_43 rfl rfl ?_
      refine Rn.getI dX10_readAll_44 fd_X10_89_9 (by first | rfl | exact gC0 (by assumption) | exact gL0 (by assumption)) rfl ?_
      refine Rn.topI (nI p3) (by rfl) ?_
      refine Rn.aload_n dX10_readAll_47 rfl rfl ?_
      refine Rn.getI dX10_readAll_48 fd_X10_92_9 (by first | rfl | exact gC0 (by assumption) | exact gL0 (by assumption)) rfl ?_
      refine Rn.topI (nI e) (by exact h11) ?_
      refine Rn.icmp_neN dX10_readAll_51 58 (fun h5 => ?_) (fun h5 => ?_)
      · refine Rn.aload_n dX10_readAll_58 rfl rfl ?_
        refine Rn.bipush (v := (nI 59)) dX10_readAll_59 rfl ?_
        refine Rn.bipush (v := (nI 59)) dX10_readAll_61 rfl ?_
        refine Rn.callV (As := [_, _]) dX10_readAll_63 mv_X10_95 (by first | rfl | exact gC0 (by assumption) | exact gL0 (by assumption)) rfl rfl rfl (Nat.le_of_ble_eq_true rfl) (ct_isAt G (d + 31) (PS I p3 p3 r2 s2 V2) _ _ p3 e r4 he (by rfl) (by exact h11)) (fun _ _ h => h) (fun v J h => ?_)
        obtain ⟨rfl, rfl | ⟨rfl, h6⟩⟩ := h
        · refine Rn.if_ne (tgt := 71) dX10_readAll_66 (by decide) (fun h9 => absurd h9 (by decide)) (fun _ => ?_)
          refine Rn.iconst (v := (-1)) dX10_readAll_69 rfl ?_
          exact Rn.iret dX10_readAll_70 rfl (⟨p3, p3, r2, s2, V2, rfl, r4, r4, hV2, Or.inl rfl⟩)
        · refine Rn.if_ne (tgt := 71) dX10_readAll_66 (by decide) (fun _ => ?_) (fun h9 => absurd h9 (by decide))
          refine Rn.aload_n dX10_readAll_71 rfl rfl ?_
          refine Rn.dup dX10_readAll_72 rfl ?_
          refine Rn.getI dX10_readAll_73 fd_X10_89_9 (by first | rfl | exact gC0 (by assumption) | exact gL0 (by assumption)) rfl ?_
          refine Rn.topI (nI p3) (by rfl) ?_
          refine Rn.iconst (v := (nI 1)) dX10_readAll_76 rfl ?_
          refine Rn.iadd dX10_readAll_77 ?_
          refine Rn.topI (nI (p3 + 1)) (by exact nI_1 p3) ?_
          refine Rn.putI dX10_readAll_78 fp_X10_89_9 (by first | rfl | exact gC0 (by assumption) | exact gL0 (by assumption)) rfl ?_
          refine Rn.iincN dX10_readAll_81 rfl (by decide) ?_
          refine Rn.goto 28 dX10_readAll_84 (by decide) ?_
          exact Rn.hpp _ (PS_10 _ _ _ _ _ _ _) (ih (n + 1) (p3 + 1) p3 r2 s2 V2 (by omega) (by omega) r4 (by omega) hL2 hV2)
      · refine Rn.iload_n dX10_readAll_54 rfl rfl ?_
        refine Rn.iconst (v := (nI 1)) dX10_readAll_55 rfl ?_
        refine Rn.iadd dX10_readAll_56 ?_
        refine Rn.topI (nI (n + 1)) (by exact nI_1 n) ?_
        exact Rn.iret dX10_readAll_57 rfl (⟨p3, p3, r2, s2, V2, rfl, r4, r4, hV2, Or.inr ⟨n + 1, rfl, by omega, by omega, hL2⟩⟩)
end Law
