theorem dX10_readLawLine_107 : decode cX10_readLawLine 107 = .ok (.aload_n 0, 1) := by decide +kernel
theorem dX10_readLawLine_108 : decode cX10_readLawLine 108 = .ok (.getfield 13, 3) := by decide +kernel
theorem dX10_readLawLine_111 : decode cX10_readLawLine 111 = .ok (.iload_n 2, 1) := by decide +kernel
theorem dX10_readLawLine_112 : decode cX10_readLawLine 112 = .ok (.iconst 2, 1) := by decide +kernel
theorem dX10_readLawLine_113 : decode cX10_readLawLine 113 = .ok (.iadd, 1) := by decide +kernel
theorem dX10_readLawLine_114 : decode cX10_readLawLine 114 = .ok (.aload_n 0, 1) := by decide +kernel
theorem dX10_readLawLine_115 : decode cX10_readLawLine 115 = .ok (.getfield 168, 3) := by decide +kernel
theorem dX10_readLawLine_118 : decode cX10_readLawLine 118 = .ok (.iastore, 1) := by decide +kernel
theorem dX10_readLawLine_119 : decode cX10_readLawLine 119 = .ok (.aload_n 0, 1) := by decide +kernel
theorem dX10_readLawLine_120 : decode cX10_readLawLine 120 = .ok (.iconst 0, 1) := by decide +kernel
theorem dX10_readLawLine_121 : decode cX10_readLawLine 121 = .ok (.putfield 194, 3) := by decide +kernel
theorem dX10_readLawLine_124 : decode cX10_readLawLine 124 = .ok (.aload_n 0, 1) := by decide +kernel
theorem dX10_readLawLine_125 : decode cX10_readLawLine 125 = .ok (.ldc 222, 2) := by decide +kernel
theorem sm_X10_222 : (RX10, 222, "if", 1015) ∈ zSR := by decide +kernel
theorem dX10_readLawLine_127 : decode cX10_readLawLine 127 = .ok (.invokevirtual 139, 3) := by decide +kernel
theorem dX10_readLawLine_130 : decode cX10_readLawLine 130 = .ok (.ifCond .eq 12, 3) := by decide +kernel
theorem dX10_readLawLine_142 : decode cX10_readLawLine 142 = .ok (.aload_n 0, 1) := by decide +kernel
theorem dX10_readLawLine_143 : decode cX10_readLawLine 143 = .ok (.getfield 13, 3) := by decide +kernel
theorem dX10_readLawLine_146 : decode cX10_readLawLine 146 = .ok (.iload_n 2, 1) := by decide +kernel
theorem dX10_readLawLine_147 : decode cX10_readLawLine 147 = .ok (.iconst 3, 1) := by decide +kernel
theorem dX10_readLawLine_148 : decode cX10_readLawLine 148 = .ok (.iadd, 1) := by decide +kernel
theorem dX10_readLawLine_149 : decode cX10_readLawLine 149 = .ok (.aload_n 0, 1) := by decide +kernel
theorem dX10_readLawLine_150 : decode cX10_readLawLine 150 = .ok (.getfield 168, 3) := by decide +kernel
theorem dX10_readLawLine_153 : decode cX10_readLawLine 153 = .ok (.iastore, 1) := by decide +kernel
theorem dX10_readLawLine_154 : decode cX10_readLawLine 154 = .ok (.iconst 1, 1) := by decide +kernel
theorem dX10_readLawLine_155 : decode cX10_readLawLine 155 = .ok (.ireturn, 1) := by decide +kernel
theorem dX10_readLawLine_133 : decode cX10_readLawLine 133 = .ok (.aload_n 0, 1) := by decide +kernel
theorem dX10_readLawLine_134 : decode cX10_readLawLine 134 = .ok (.invokevirtual 197, 3) := by decide +kernel
theorem dX10_readLawLine_137 : decode cX10_readLawLine 137 = .ok (.ifCond .ne 5, 3) := by decide +kernel
theorem dX10_readLawLine_140 : decode cX10_readLawLine 140 = .ok (.iconst 0, 1) := by decide +kernel
theorem dX10_readLawLine_141 : decode cX10_readLawLine 141 = .ok (.ireturn, 1) := by decide +kernel
theorem dX10_readLawLine_65 : decode cX10_readLawLine 65 = .ok (.aload_n 0, 1) := by decide +kernel
theorem dX10_readLawLine_66 : decode cX10_readLawLine 66 = .ok (.getfield 13, 3) := by decide +kernel
theorem dX10_readLawLine_69 : decode cX10_readLawLine 69 = .ok (.iload_n 2, 1) := by decide +kernel
theorem dX10_readLawLine_70 : decode cX10_readLawLine 70 = .ok (.iconst 1, 1) := by decide +kernel
theorem dX10_readLawLine_71 : decode cX10_readLawLine 71 = .ok (.iadd, 1) := by decide +kernel
theorem dX10_readLawLine_72 : decode cX10_readLawLine 72 = .ok (.aload_n 0, 1) := by decide +kernel
theorem dX10_readLawLine_73 : decode cX10_readLawLine 73 = .ok (.getfield 13, 3) := by decide +kernel
theorem dX10_readLawLine_76 : decode cX10_readLawLine 76 = .ok (.iload_n 2, 1) := by decide +kernel
theorem dX10_readLawLine_77 : decode cX10_readLawLine 77 = .ok (.iaload, 1) := by decide +kernel
theorem dX10_readLawLine_78 : decode cX10_readLawLine 78 = .ok (.iconst 2, 1) := by decide +kernel
theorem dX10_readLawLine_79 : decode cX10_readLawLine 79 = .ok (.if_icmp .ne 7, 3) := by decide +kernel
theorem dX10_readLawLine_86 : decode cX10_readLawLine 86 = .ok (.aload_n 0, 1) := by decide +kernel
theorem dX10_readLawLine_87 : decode cX10_readLawLine 87 = .ok (.iconst 0, 1) := by decide +kernel
theorem dX10_readLawLine_88 : decode cX10_readLawLine 88 = .ok (.bipush 60, 2) := by decide +kernel
theorem dX10_readLawLine_90 : decode cX10_readLawLine 90 = .ok (.invokevirtual 121, 3) := by decide +kernel
theorem dX10_readLawLine_93 : decode cX10_readLawLine 93 = .ok (.iastore, 1) := by decide +kernel
theorem dX10_readLawLine_94 : decode cX10_readLawLine 94 = .ok (.aload_n 0, 1) := by decide +kernel
theorem dX10_readLawLine_95 : decode cX10_readLawLine 95 = .ok (.getfield 13, 3) := by decide +kernel
theorem dX10_readLawLine_98 : decode cX10_readLawLine 98 = .ok (.iload_n 2, 1) := by decide +kernel
theorem dX10_readLawLine_99 : decode cX10_readLawLine 99 = .ok (.iconst 1, 1) := by decide +kernel
theorem dX10_readLawLine_100 : decode cX10_readLawLine 100 = .ok (.iadd, 1) := by decide +kernel
theorem dX10_readLawLine_101 : decode cX10_readLawLine 101 = .ok (.iaload, 1) := by decide +kernel
theorem dX10_readLawLine_102 : decode cX10_readLawLine 102 = .ok (.ifCond .ge 5, 3) := by decide +kernel
theorem dX10_readLawLine_105 : decode cX10_readLawLine 105 = .ok (.iconst 0, 1) := by decide +kernel
theorem dX10_readLawLine_106 : decode cX10_readLawLine 106 = .ok (.ireturn, 1) := by decide +kernel
theorem dX10_readLawLine_0 : decode cX10_readLawLine 0 = .ok (.sipush 1227, 3) := by decide +kernel
theorem dX10_readLawLine_3 : decode cX10_readLawLine 3 = .ok (.iconst 4, 1) := by decide +kernel
theorem dX10_readLawLine_4 : decode cX10_readLawLine 4 = .ok (.iload_n 1, 1) := by decide +kernel
theorem dX10_readLawLine_5 : decode cX10_readLawLine 5 = .ok (.imul, 1) := by decide +kernel
theorem dX10_readLawLine_6 : decode cX10_readLawLine 6 = .ok (.iadd, 1) := by decide +kernel
theorem dX10_readLawLine_7 : decode cX10_readLawLine 7 = .ok (.istore_n 2, 1) := by decide +kernel
theorem dX10_readLawLine_8 : decode cX10_readLawLine 8 = .ok (.aload_n 0, 1) := by decide +kernel
theorem dX10_readLawLine_9 : decode cX10_readLawLine 9 = .ok (.getfield 13, 3) := by decide +kernel
theorem dX10_readLawLine_12 : decode cX10_readLawLine 12 = .ok (.iload_n 2, 1) := by decide +kernel
theorem dX10_readLawLine_13 : decode cX10_readLawLine 13 = .ok (.aload_n 0, 1) := by decide +kernel
theorem dX10_readLawLine_14 : decode cX10_readLawLine 14 = .ok (.ldc 218, 2) := by decide +kernel
theorem sm_X10_218 : (RX10, 218, "flow", 1012) ∈ zSR := by decide +kernel
theorem dX10_readLawLine_16 : decode cX10_readLawLine 16 = .ok (.invokevirtual 117, 3) := by decide +kernel
theorem dX10_readLawLine_19 : decode cX10_readLawLine 19 = .ok (.ifCond .eq 7, 3) := by decide +kernel
theorem dX10_readLawLine_22 : decode cX10_readLawLine 22 = .ok (.iconst 0, 1) := by decide +kernel
theorem dX10_readLawLine_23 : decode cX10_readLawLine 23 = .ok (.goto 30, 3) := by decide +kernel
theorem dX10_readLawLine_53 : decode cX10_readLawLine 53 = .ok (.iastore, 1) := by decide +kernel
theorem dX10_readLawLine_54 : decode cX10_readLawLine 54 = .ok (.aload_n 0, 1) := by decide +kernel
theorem dX10_readLawLine_55 : decode cX10_readLawLine 55 = .ok (.getfield 13, 3) := by decide +kernel
theorem dX10_readLawLine_58 : decode cX10_readLawLine 58 = .ok (.iload_n 2, 1) := by decide +kernel
theorem dX10_readLawLine_59 : decode cX10_readLawLine 59 = .ok (.iaload, 1) := by decide +kernel
theorem dX10_readLawLine_60 : decode cX10_readLawLine 60 = .ok (.ifCond .ge 5, 3) := by decide +kernel
theorem dX10_readLawLine_26 : decode cX10_readLawLine 26 = .ok (.aload_n 0, 1) := by decide +kernel
theorem dX10_readLawLine_27 : decode cX10_readLawLine 27 = .ok (.ldc 173, 2) := by decide +kernel
theorem dX10_readLawLine_29 : decode cX10_readLawLine 29 = .ok (.invokevirtual 117, 3) := by decide +kernel
theorem dX10_readLawLine_32 : decode cX10_readLawLine 32 = .ok (.ifCond .eq 7, 3) := by decide +kernel
theorem dX10_readLawLine_35 : decode cX10_readLawLine 35 = .ok (.iconst 1, 1) := by decide +kernel
theorem dX10_readLawLine_36 : decode cX10_readLawLine 36 = .ok (.goto 17, 3) := by decide +kernel
theorem dX10_readLawLine_39 : decode cX10_readLawLine 39 = .ok (.aload_n 0, 1) := by decide +kernel
theorem dX10_readLawLine_40 : decode cX10_readLawLine 40 = .ok (.ldc 220, 2) := by decide +kernel
theorem sm_X10_220 : (RX10, 220, "stick", 1014) ∈ zSR := by decide +kernel
theorem dX10_readLawLine_42 : decode cX10_readLawLine 42 = .ok (.invokevirtual 117, 3) := by decide +kernel
theorem dX10_readLawLine_45 : decode cX10_readLawLine 45 = .ok (.ifCond .eq 7, 3) := by decide +kernel
theorem dX10_readLawLine_52 : decode cX10_readLawLine 52 = .ok (.iconst (-1), 1) := by decide +kernel
theorem dX10_readLawLine_63 : decode cX10_readLawLine 63 = .ok (.iconst 0, 1) := by decide +kernel
theorem dX10_readLawLine_64 : decode cX10_readLawLine 64 = .ok (.ireturn, 1) := by decide +kernel
theorem dX10_readLawLine_48 : decode cX10_readLawLine 48 = .ok (.iconst 2, 1) := by decide +kernel
theorem dX10_readLawLine_49 : decode cX10_readLawLine 49 = .ok (.goto 4, 3) := by decide +kernel
theorem dX10_readLawLine_82 : decode cX10_readLawLine 82 = .ok (.iconst 1, 1) := by decide +kernel
theorem dX10_readLawLine_83 : decode cX10_readLawLine 83 = .ok (.goto 10, 3) := by decide +kernel
theorem dX10_readLine_0 : decode cX10_readLine 0 = .ok (.aload_n 0, 1) := by decide +kernel
theorem dX10_readLine_1 : decode cX10_readLine 1 = .ok (.invokevirtual 114, 3) := by decide +kernel
theorem dX10_readLine_4 : decode cX10_readLine 4 = .ok (.iload_n 2, 1) := by decide +kernel
theorem dX10_readLine_5 : decode cX10_readLine 5 = .ok (.iload_n 1, 1) := by decide +kernel
theorem dX10_readLine_6 : decode cX10_readLine 6 = .ok (.ifCond .eq 8, 3) := by decide +kernel
theorem dX10_readLine_14 : decode cX10_readLine 14 = .ok (.bipush 12, 2) := by decide +kernel
theorem dX10_readLine_16 : decode cX10_readLine 16 = .ok (.if_icmp .ge 29, 3) := by decide +kernel
theorem dX10_readLine_45 : decode cX10_readLine 45 = .ok (.iconst 0, 1) := by decide +kernel
theorem dX10_readLine_46 : decode cX10_readLine 46 = .ok (.ireturn, 1) := by decide +kernel
theorem dX10_readLine_19 : decode cX10_readLine 19 = .ok (.iload_n 1, 1) := by decide +kernel
theorem dX10_readLine_20 : decode cX10_readLine 20 = .ok (.ifCond .eq 13, 3) := by decide +kernel
theorem dX10_readLine_33 : decode cX10_readLine 33 = .ok (.aload_n 0, 1) := by decide +kernel
theorem dX10_readLine_34 : decode cX10_readLine 34 = .ok (.iload_n 2, 1) := by decide +kernel
theorem dX10_readLine_35 : decode cX10_readLine 35 = .ok (.invokevirtual 227, 3) := by decide +kernel
theorem dX10_readLine_38 : decode cX10_readLine 38 = .ok (.ifCond .eq 7, 3) := by decide +kernel
theorem dX10_readLine_41 : decode cX10_readLine 41 = .ok (.iconst 1, 1) := by decide +kernel
theorem dX10_readLine_42 : decode cX10_readLine 42 = .ok (.goto 4, 3) := by decide +kernel
theorem dX10_readAll_28 : decode cX10_readAll 28 = .ok (.aload_n 0, 1) := by decide +kernel
theorem dX10_readAll_29 : decode cX10_readAll 29 = .ok (.iload_n 1, 1) := by decide +kernel
theorem dX10_readAll_30 : decode cX10_readAll 30 = .ok (.iload_n 2, 1) := by decide +kernel
theorem dX10_readAll_31 : decode cX10_readAll 31 = .ok (.invokevirtual 233, 3) := by decide +kernel
theorem dX10_readAll_34 : decode cX10_readAll 34 = .ok (.ifCond .ne 5, 3) := by decide +kernel
theorem dX10_readAll_37 : decode cX10_readAll 37 = .ok (.iconst (-1), 1) := by decide +kernel
theorem dX10_readAll_38 : decode cX10_readAll 38 = .ok (.ireturn, 1) := by decide +kernel
theorem dX10_readAll_39 : decode cX10_readAll 39 = .ok (.aload_n 0, 1) := by decide +kernel
theorem dX10_readAll_40 : decode cX10_readAll 40 = .ok (.invokevirtual 102, 3) := by decide +kernel
theorem dX10_readAll_43 : decode cX10_readAll 43 = .ok (.aload_n 0, 1) := by decide +kernel
theorem dX10_readAll_44 : decode cX10_readAll 44 = .ok (.getfield 89, 3) := by decide +kernel
theorem dX10_readAll_47 : decode cX10_readAll 47 = .ok (.aload_n 0, 1) := by decide +kernel
theorem dX10_readAll_48 : decode cX10_readAll 48 = .ok (.getfield 92, 3) := by decide +kernel
theorem dX10_readAll_51 : decode cX10_readAll 51 = .ok (.if_icmp .ne 7, 3) := by decide +kernel
theorem dX10_readAll_58 : decode cX10_readAll 58 = .ok (.aload_n 0, 1) := by decide +kernel
theorem dX10_readAll_59 : decode cX10_readAll 59 = .ok (.bipush 59, 2) := by decide +kernel
theorem dX10_readAll_61 : decode cX10_readAll 61 = .ok (.bipush 59, 2) := by decide +kernel
theorem dX10_readAll_63 : decode cX10_readAll 63 = .ok (.invokevirtual 95, 3) := by decide +kernel
theorem dX10_readAll_66 : decode cX10_readAll 66 = .ok (.ifCond .ne 5, 3) := by decide +kernel
theorem dX10_readAll_69 : decode cX10_readAll 69 = .ok (.iconst (-1), 1) := by decide +kernel
theorem dX10_readAll_70 : decode cX10_readAll 70 = .ok (.ireturn, 1) := by decide +kernel
theorem dX10_readAll_71 : decode cX10_readAll 71 = .ok (.aload_n 0, 1) := by decide +kernel
theorem dX10_readAll_72 : decode cX10_readAll 72 = .ok (.dup, 1) := by decide +kernel
theorem dX10_readAll_73 : decode cX10_readAll 73 = .ok (.getfield 89, 3) := by decide +kernel
theorem dX10_readAll_76 : decode cX10_readAll 76 = .ok (.iconst 1, 1) := by decide +kernel
theorem dX10_readAll_77 : decode cX10_readAll 77 = .ok (.iadd, 1) := by decide +kernel
theorem dX10_readAll_78 : decode cX10_readAll 78 = .ok (.putfield 89, 3) := by decide +kernel
theorem dX10_readAll_81 : decode cX10_readAll 81 = .ok (.iinc 2 1, 3) := by decide +kernel
theorem dX10_readAll_84 : decode cX10_readAll 84 = .ok (.goto (-56), 3) := by decide +kernel
theorem dX10_readAll_54 : decode cX10_readAll 54 = .ok (.iload_n 2, 1) := by decide +kernel
theorem dX10_readAll_55 : decode cX10_readAll 55 = .ok (.iconst 1, 1) := by decide +kernel
theorem dX10_readAll_56 : decode cX10_readAll 56 = .ok (.iadd, 1) := by decide +kernel
theorem dX10_readAll_57 : decode cX10_readAll 57 = .ok (.ireturn, 1) := by decide +kernel
/-! the reference's reader: the law's lines, and law itself -/
theorem w_len : zsLen.getD 12 0 = 4 ∧ zsLen.getD 13 0 = 4 ∧ zsLen.getD 14 0 = 5 := by decide +kernel
def lineK (V : Nat → Int32) (n s s' : Nat) : Prop := inIv (0, 60) (V (1228 + 4 * n)) ∧ V (1229 + 4 * n) = nI s ∧ V (1230 + 4 * n) = nI s' ∧ (s = s' ∨ seg V s s')
def LL (c : Nat → Nat) (e : Nat) (I : Hi) (p n s : Nat) (V : Nat → Int32) (o : Go) (v : Option Value) (J : Hi) : Prop := ∃ (p' b' q' s' : Nat) (V' : Nat → Int32), J = PS I p' b' q' s' V' ∧ p ≤ p' ∧ p' ≤ e ∧ b' ≤ e ∧ (∀ j, j < 1227 + 4 * n → V' j = V j) ∧ (∀ j, 1275 ≤ j → j < 1275 + 2 * s → V' j = V j) ∧ ((v = some (.int (nI 0)) ∧ o = .inl b') ∨ (v = some (.int (nI 1)) ∧ n < 12 ∧ s ≤ s' ∧ s' ≤ p' ∧ lineK V' n s s' ∧ o = .inr (bl c e p')))
theorem segU {V : Nat → Int32} {s s' n : Nat} {x : Int32} (h : seg V s s') (hn : n < 12) : seg (upd V (1230 + 4 * n) x) s s' := by
  obtain ⟨g1, g2, g3⟩ := h
  have eo : ∀ i, opV (upd V (1230 + 4 * n) x) i = opV V i := fun i => by unfold opV; rw [upd_ne _ _ (by omega)]
  exact ⟨g1, fun i a b => by rw [upd_ne _ _ (by omega), eo i]; exact g2 i a b, fun h q => sgS.congr (fun k a b => eo k) (g3 h q)⟩
section Law
variable (G : Gx) (d : Nat) {c : Nat → Nat} {e : Nat}
theorem ll_tail (I : Hi) (n p s : Nat) (V : Nat → Int32) (hn : n < 12) (hT : TY I c e) (o : Go) (p2 b2 q : Nat) (V2 : Nat → Int32) (q2 : Nat) (h0 : bl c e p2 = q2) (ho : (if wv c e q2 = 294 then gAny c e (gAtom c e 6) (nx c e q2) else .inr q2) = o) (h1 : p ≤ p2) (h2 : p2 ≤ e) (h3 : b2 ≤ e) (h4 : s + 4 ≤ p2) (h5 : ∀ j, j < 1227 + 4 * n → V2 j = V j) (h6 : ∀ j, 1275 ≤ j → j < 1275 + 2 * s → V2 j = V j) (h7 : inIv (0, 60) (V2 (1228 + 4 * n))) :
    Rn G GAM mX10_readLawLine (kM G GAM (Rv (LL c e I p n s V o))) (d + 30) 0 107 [some (.ref 94), some (.int (nI n)), some (.int (nI (1227 + 4 * n)))] [] (PS I p2 b2 q s V2) := by
  have he := hT.1
  refine Rn.aload_n dX10_readLawLine_107 rfl rfl ?_
  refine Rn.getR dX10_readLawLine_108 fd_X10_13_9 (by first | rfl | exact gC0 (by assumption) | exact gL0 (by assumption)) rfl ?_
  refine Rn.iload_n dX10_readLawLine_111 rfl rfl ?_
  refine Rn.iconst (v := (nI 2)) dX10_readLawLine_112 rfl ?_
  refine Rn.iadd dX10_readLawLine_113 ?_
  refine Rn.aload_n dX10_readLawLine_114 rfl rfl ?_
  refine Rn.getI dX10_readLawLine_115 fd_X10_168_9 (by first | rfl | exact gC0 (by assumption) | exact gL0 (by assumption)) rfl ?_
  refine Rn.topI (nI s) (by rfl) ?_
  refine Rn.secI (nI (1229 + 4 * n)) (by first | rfl | (simp only [nI_add, pk_mul, nI_1]; done) | (simp only [nI_add, pk_mul, nI_1]; congr 1; omega)) ?_
  refine Rn.iastN dX10_readLawLine_118 (by first | rfl | exact gC1 (by assumption) | exact gC2 (by assumption) | exact gC3 (by assumption) | exact gL1 (by assumption) | exact gL2 (by assumption) | exact gL3 (by assumption) | exact gL4 (by assumption) | exact gL5 (by assumption) | exact gL6 (by assumption)) ?_
  refine Rn.hpp _ (PS_95 _ _ _ _ _ _ _ _) ?_
  refine Rn.aload_n dX10_readLawLine_119 rfl rfl ?_
  refine Rn.iconst (v := (nI 0)) dX10_readLawLine_120 rfl ?_
  refine Rn.putI dX10_readLawLine_121 fp_X10_194_9 (by first | rfl | exact gC0 (by assumption) | exact gL0 (by assumption)) rfl ?_
  refine Rn.hpp _ (PS_13 _ _ _ _ _ _ _) ?_
  refine Rn.aload_n dX10_readLawLine_124 rfl rfl ?_
  refine Rn.ldcS dX10_readLawLine_125 sm_X10_222 ?_
  refine Rn.callV (As := [_]) dX10_readLawLine_127 mv_X10_139 (by first | rfl | exact gC0 (by assumption) | exact gL0 (by assumption)) rfl rfl rfl (Nat.le_of_ble_eq_true rfl) (cx_passes G (d + 24) (PS I p2 b2 0 s (upd V2 (1229 + 4 * n) (nI s))) 15 p2 (by decide) hT.ps h2 (by rfl)) (fun _ _ h => h) (fun v J h => ?_)
  rcases h with ⟨rfl, p3, r1, r2, rfl, r4, r5⟩ | ⟨rfl, p3, b3, r1, r2, r3, rfl, r4, r5, r6⟩
  · rw [h0] at r4
    subst r4
    rw [hz_15] at r5
    rw [if_neg r5] at ho
    refine Rn.hpp _ (PS_PB _ _ _ _ _ _ _ _) ?_
    refine Rn.if_eq (tgt := 142) dX10_readLawLine_130 (by decide) (fun _ => ?_) (fun h9 => absurd h9 (by decide))
    refine Rn.aload_n dX10_readLawLine_142 rfl rfl ?_
    refine Rn.getR dX10_readLawLine_143 fd_X10_13_9 (by first | rfl | exact gC0 (by assumption) | exact gL0 (by assumption)) rfl ?_
    refine Rn.iload_n dX10_readLawLine_146 rfl rfl ?_
    refine Rn.iconst (v := (nI 3)) dX10_readLawLine_147 rfl ?_
    refine Rn.iadd dX10_readLawLine_148 ?_
    refine Rn.aload_n dX10_readLawLine_149 rfl rfl ?_
    refine Rn.getI dX10_readLawLine_150 fd_X10_168_9 (by first | rfl | exact gC0 (by assumption) | exact gL0 (by assumption)) rfl ?_
    refine Rn.topI (nI s) (by rfl) ?_
    refine Rn.secI (nI (1230 + 4 * n)) (by first | rfl | (simp only [nI_add, pk_mul, nI_1]; done) | (simp only [nI_add, pk_mul, nI_1]; congr 1; omega)) ?_
    refine Rn.iastN dX10_readLawLine_153 (by first | rfl | exact gC1 (by assumption) | exact gC2 (by assumption) | exact gC3 (by assumption) | exact gL1 (by assumption) | exact gL2 (by assumption) | exact gL3 (by assumption) | exact gL4 (by assumption) | exact gL5 (by assumption) | exact gL6 (by assumption)) ?_
    refine Rn.hpp _ (PS_95 _ _ _ _ _ _ _ _) ?_
    refine Rn.iconst (v := (nI 1)) dX10_readLawLine_154 rfl ?_
    exact Rn.zret dX10_readLawLine_155 rfl rfl (⟨p3, p3, 0, s, _, rfl, by omega, r2, r2, fun j hj => by rw [upd_ne _ _ (by omega), upd_ne _ _ (by omega)]; exact h5 j hj, fun j a b => by rw [upd_ne _ _ (by omega), upd_ne _ _ (by omega)]; exact h6 j a b, Or.inr ⟨rfl, hn, Nat.le_refl _, by omega, ⟨by rw [upd_ne _ _ (by omega), upd_ne _ _ (by omega)]; exact h7, by rw [upd_ne _ _ (by omega), upd_at], upd_at _ _ _, Or.inl rfl⟩, ho.symm.trans (by rw [← h0, bl_bl])⟩⟩)
  · rw [h0] at r4
    subst r4
    rw [hz_15] at r5
    rw [if_pos r5] at ho
    refine Rn.hpp _ (PS_PB _ _ _ _ _ _ _ _) ?_
    refine Rn.if_eq (tgt := 142) dX10_readLawLine_130 (by decide) (fun h9 => absurd h9 (by decide)) (fun _ => ?_)
    refine Rn.aload_n dX10_readLawLine_133 rfl rfl ?_
    refine Rn.callV (As := []) dX10_readLawLine_134 mv_X10_197 (by first | rfl | exact gC0 (by assumption) | exact gL0 (by assumption)) rfl rfl rfl (Nat.le_of_ble_eq_true rfl) (rd_cond0 G c e d I p3 b3 s (upd V2 (1229 + 4 * n) (nI s)) (nx c e b3) hT r3 (by omega) (by omega) r6) (fun _ _ h => h) (fun v J h => ?_)
    obtain ⟨p4, b4, q4, s4, V4, rfl, t1, t2, t3, t4, t5, t6, t7, ⟨rfl, t0⟩ | ⟨rfl, hq4, t8, t9, t0⟩⟩ := h
    · refine Rn.if_ne (tgt := 142) dX10_readLawLine_137 (by decide) (fun h9 => absurd h9 (by decide)) (fun _ => ?_)
      refine Rn.iconst (v := (nI 0)) dX10_readLawLine_140 rfl ?_
      exact Rn.zret dX10_readLawLine_141 rfl rfl (⟨p4, b4, q4, s4, V4, rfl, by omega, t2, t3, fun j hj => by rw [t7 j (by omega), upd_ne _ _ (by omega)]; exact h5 j hj, fun j a b => by rw [t7 j (by omega), upd_ne _ _ (by omega)]; exact h6 j a b, Or.inl ⟨rfl, ho.symm.trans t0⟩⟩)
    · have t10 := t9.1
      refine Rn.if_ne (tgt := 142) dX10_readLawLine_137 (by decide) (fun _ => ?_) (fun h9 => absurd h9 (by decide))
      refine Rn.aload_n dX10_readLawLine_142 rfl rfl ?_
      refine Rn.getR dX10_readLawLine_143 fd_X10_13_9 (by first | rfl | exact gC0 (by assumption) | exact gL0 (by assumption)) rfl ?_
      refine Rn.iload_n dX10_readLawLine_146 rfl rfl ?_
      refine Rn.iconst (v := (nI 3)) dX10_readLawLine_147 rfl ?_
      refine Rn.iadd dX10_readLawLine_148 ?_
      refine Rn.aload_n dX10_readLawLine_149 rfl rfl ?_
      refine Rn.getI dX10_readLawLine_150 fd_X10_168_9 (by first | rfl | exact gC0 (by assumption) | exact gL0 (by assumption)) rfl ?_
      refine Rn.topI (nI s4) (by rfl) ?_
      refine Rn.secI (nI (1230 + 4 * n)) (by first | rfl | (simp only [nI_add, pk_mul, nI_1]; done) | (simp only [nI_add, pk_mul, nI_1]; congr 1; omega)) ?_
      refine Rn.iastN dX10_readLawLine_153 (by first | rfl | exact gC1 (by assumption) | exact gC2 (by assumption) | exact gC3 (by assumption) | exact gL1 (by assumption) | exact gL2 (by assumption) | exact gL3 (by assumption) | exact gL4 (by assumption) | exact gL5 (by assumption) | exact gL6 (by assumption)) ?_
      refine Rn.hpp _ (PS_95 _ _ _ _ _ _ _ _) ?_
      refine Rn.iconst (v := (nI 1)) dX10_readLawLine_154 rfl ?_
      exact Rn.zret dX10_readLawLine_155 rfl rfl (⟨p4, b4, q4, s4, _, rfl, by omega, t2, t3, fun j hj => by rw [upd_ne _ _ (by omega), t7 j (by omega), upd_ne _ _ (by omega)]; exact h5 j hj, fun j a b => by rw [upd_ne _ _ (by omega), t7 j (by omega), upd_ne _ _ (by omega)]; exact h6 j a b, Or.inr ⟨rfl, hn, t5, by omega, ⟨by rw [upd_ne _ _ (by omega), t7 _ (by omega), upd_ne _ _ (by omega)]; exact h7, by rw [upd_ne _ _ (by omega), t7 _ (by omega), upd_at], upd_at _ _ _, Or.inr (segU t9 hn)⟩, ho.symm.trans t0⟩⟩)
theorem ll_mid (I : Hi) (n p b s k q : Nat) (V : Nat → Int32) (hn : n < 12) (hT : TY I c e) (o : Go) (q1 : Nat) (h0 : bl c e p = q1) (ho : gB (gNum c e (nI 60) q1) (fun q2 => if wv c e q2 = 294 then gAny c e (gAtom c e 6) (nx c e q2) else .inr q2) = o) (hp : p ≤ e) (hb : b ≤ e) (hs : s + 4 ≤ p) (hk : k < 2) :
    Rn G GAM mX10_readLawLine (kM G GAM (Rv (LL c e I p n s V o))) (d + 30) 0 65 [some (.ref 94), some (.int (nI n)), some (.int (nI (1227 + 4 * n)))] [] (PS I p b q s (upd V (1227 + 4 * n) (nI k))) := by
  have he := hT.1
  refine Rn.aload_n dX10_readLawLine_65 rfl rfl ?_
  refine Rn.getR dX10_readLawLine_66 fd_X10_13_9 (by first | rfl | exact gC0 (by assumption) | exact gL0 (by assumption)) rfl ?_
  refine Rn.iload_n dX10_readLawLine_69 rfl rfl ?_
  refine Rn.iconst (v := (nI 1)) dX10_readLawLine_70 rfl ?_
  refine Rn.iadd dX10_readLawLine_71 ?_
  refine Rn.aload_n dX10_readLawLine_72 rfl rfl ?_
  refine Rn.getR dX10_readLawLine_73 fd_X10_13_9 (by first | rfl | exact gC0 (by assumption) | exact gL0 (by assumption)) rfl ?_
  refine Rn.iload_n dX10_readLawLine_76 rfl rfl ?_
  refine Rn.ialdN dX10_readLawLine_77 (by first | rfl | exact gC1 (by assumption) | exact gC2 (by assumption) | exact gC3 (by assumption) | exact gL1 (by assumption) | exact gL2 (by assumption) | exact gL3 (by assumption) | exact gL4 (by assumption) | exact gL5 (by assumption) | exact gL6 (by assumption)) ?_
  refine Rn.topI (nI k) (by exact upd_at _ _ _) ?_
  refine Rn.iconst (v := (nI 2)) dX10_readLawLine_78 rfl ?_
  refine Rn.icmp_neN dX10_readLawLine_79 86 (fun _ => ?_) (fun h9 => by exfalso; omega)
  refine Rn.aload_n dX10_readLawLine_86 rfl rfl ?_
  refine Rn.iconst (v := (nI 0)) dX10_readLawLine_87 rfl ?_
  refine Rn.bipush (v := (nI 60)) dX10_readLawLine_88 rfl ?_
  refine Rn.callV (As := [_, _]) dX10_readLawLine_90 mv_X10_121 (by first | rfl | exact gC0 (by assumption) | exact gL0 (by assumption)) rfl rfl rfl (Nat.le_of_ble_eq_true rfl) (cx_number G (d + 27) (PS I p b q s (upd V (1227 + 4 * n) (nI k))) 60 p (by decide) hT.ps hp (by rfl)) (fun _ _ h => h) (fun v J h => ?_)
  obtain ⟨p2, b2, q4, q2, q3, rfl, hb2, ⟨rfl, h5⟩ | ⟨x, rfl, h5, h6, h7, h8, h9, h10⟩⟩ := h
  · rw [h0] at hb2
    subst hb2
    rw [gB_l (show gNum c e (nI 60) b2 = .inl b2 from if_pos h5)] at ho
    refine Rn.hpp _ (PS_PB _ _ _ _ _ _ _ _) ?_
    refine Rn.secI (nI (1228 + 4 * n)) (by first | rfl | (simp only [nI_add, pk_mul, nI_1]; done) | (simp only [nI_add, pk_mul, nI_1]; congr 1; omega)) ?_
    refine Rn.iastN dX10_readLawLine_93 (by first | rfl | exact gC1 (by assumption) | exact gC2 (by assumption) | exact gC3 (by assumption) | exact gL1 (by assumption) | exact gL2 (by assumption) | exact gL3 (by assumption) | exact gL4 (by assumption) | exact gL5 (by assumption) | exact gL6 (by assumption)) ?_
    refine Rn.hpp _ (PS_95 _ _ _ _ _ _ _ _) ?_
    refine Rn.aload_n dX10_readLawLine_94 rfl rfl ?_
    refine Rn.getR dX10_readLawLine_95 fd_X10_13_9 (by first | rfl | exact gC0 (by assumption) | exact gL0 (by assumption)) rfl ?_
    refine Rn.iload_n dX10_readLawLine_98 rfl rfl ?_
    refine Rn.iconst (v := (nI 1)) dX10_readLawLine_99 rfl ?_
    refine Rn.iadd dX10_readLawLine_100 ?_
    refine Rn.topI (nI (1228 + 4 * n)) (by first | rfl | (simp only [nI_add, pk_mul, nI_1]; done) | (simp only [nI_add, pk_mul, nI_1]; congr 1; omega)) ?_
    refine Rn.ialdN dX10_readLawLine_101 (by first | rfl | exact gC1 (by assumption) | exact gC2 (by assumption) | exact gC3 (by assumption) | exact gL1 (by assumption) | exact gL2 (by assumption) | exact gL3 (by assumption) | exact gL4 (by assumption) | exact gL5 (by assumption) | exact gL6 (by assumption)) ?_
    refine Rn.topI (-1) (by exact upd_at _ _ _) ?_
    refine Rn.if_ge (tgt := 107) dX10_readLawLine_102 (by decide) (fun h9 => by exfalso; exact absurd h9 (by decide)) (fun _ => ?_)
    refine Rn.iconst (v := (nI 0)) dX10_readLawLine_105 rfl ?_
    exact Rn.zret dX10_readLawLine_106 rfl rfl (⟨p2, b2, q, s, _, rfl, by omega, q3, by omega, fun j hj => by rw [upd_ne _ _ (by omega), upd_ne _ _ (by omega)], fun j a b => by rw [upd_ne _ _ (by omega), upd_ne _ _ (by omega)], Or.inl ⟨rfl, ho.symm⟩⟩)
  · rw [h0] at hb2
    subst hb2
    rw [gB_r (show gNum c e (nI 60) b2 = .inr (nx c e b2) from if_neg (fun z => z.elim h9 (fun y => absurd y (by rw [h8]; exact Int32.not_lt.mpr h7))))] at ho
    refine Rn.hpp _ (PS_PB _ _ _ _ _ _ _ _) ?_
    refine Rn.secI (nI (1228 + 4 * n)) (by first | rfl | (simp only [nI_add, pk_mul, nI_1]; done) | (simp only [nI_add, pk_mul, nI_1]; congr 1; omega)) ?_
    refine Rn.iastN dX10_readLawLine_93 (by first | rfl | exact gC1 (by assumption) | exact gC2 (by assumption) | exact gC3 (by assumption) | exact gL1 (by assumption) | exact gL2 (by assumption) | exact gL3 (by assumption) | exact gL4 (by assumption) | exact gL5 (by assumption) | exact gL6 (by assumption)) ?_
    refine Rn.hpp _ (PS_95 _ _ _ _ _ _ _ _) ?_
    refine Rn.aload_n dX10_readLawLine_94 rfl rfl ?_
    refine Rn.getR dX10_readLawLine_95 fd_X10_13_9 (by first | rfl | exact gC0 (by assumption) | exact gL0 (by assumption)) rfl ?_
    refine Rn.iload_n dX10_readLawLine_98 rfl rfl ?_
    refine Rn.iconst (v := (nI 1)) dX10_readLawLine_99 rfl ?_
    refine Rn.iadd dX10_readLawLine_100 ?_
    refine Rn.topI (nI (1228 + 4 * n)) (by first | rfl | (simp only [nI_add, pk_mul, nI_1]; done) | (simp only [nI_add, pk_mul, nI_1]; congr 1; omega)) ?_
    refine Rn.ialdN dX10_readLawLine_101 (by first | rfl | exact gC1 (by assumption) | exact gC2 (by assumption) | exact gC3 (by assumption) | exact gL1 (by assumption) | exact gL2 (by assumption) | exact gL3 (by assumption) | exact gL4 (by assumption) | exact gL5 (by assumption) | exact gL6 (by assumption)) ?_
    refine Rn.topI (x) (by exact upd_at _ _ _) ?_
    refine Rn.if_ge (tgt := 107) dX10_readLawLine_102 (by decide) (fun _ => ?_) (fun h9 => by exfalso; exact h9 h6)
    exact ll_tail G d I n p s V hn hT o p2 b2 q _ (nx c e b2) h10 ho (by omega) q3 (by omega) (by omega) (fun j hj => by rw [upd_ne _ _ (by omega), upd_ne _ _ (by omega)]) (fun j a b => by rw [upd_ne _ _ (by omega), upd_ne _ _ (by omega)]) (by
      rw [upd_at]
      have a1 := Int32.le_iff_toInt_le.mp h6
      have a2 := Int32.le_iff_toInt_le.mp h7
      exact ⟨a1, a2⟩)
theorem ct_lawLine (I : Hi) (n p b s q : Nat) (V : Nat → Int32) (hn : n < 12) (hT : TY I c e) (hp : p = lx c e b) (hb : b ≤ e) (hs : s ≤ b) : Ct G GAM mX10_readLawLine (d + 30) 0 [.ref 94, .int (nI n)] (PS I p b q s V) (Rv (LL c e I p n s V (gLine c e b))) := by
  obtain ⟨w1, w2, w3⟩ := w_len
  have he := hT.1
  have hg : b ≤ lx c e b := rn_ge
  have hle : lx c e b ≤ e := rn_le hb
  have hgo : b < lx c e b → bl c e p = nx c e b := fun z => by rw [hp, nx_w z]
  refine Ct.mk [some (.ref 94), some (.int (nI n)), none] ?_
  refine Rn.sipush (v := (nI 1227)) dX10_readLawLine_0 rfl ?_
  refine Rn.iconst (v := (nI 4)) dX10_readLawLine_3 rfl ?_
  refine Rn.iload_n dX10_readLawLine_4 rfl rfl ?_
  refine Rn.imul dX10_readLawLine_5 ?_
  refine Rn.iadd dX10_readLawLine_6 ?_
  refine Rn.topI (nI (1227 + 4 * n)) (by simp only [pk_mul, nI_add]) ?_
  refine Rn.istore_n dX10_readLawLine_7 rfl (by decide) ?_
  refine Rn.aload_n dX10_readLawLine_8 rfl rfl ?_
  refine Rn.getR dX10_readLawLine_9 fd_X10_13_9 (by first | rfl | exact gC0 (by assumption) | exact gL0 (by assumption)) rfl ?_
  refine Rn.iload_n dX10_readLawLine_12 rfl rfl ?_
  refine Rn.aload_n dX10_readLawLine_13 rfl rfl ?_
  refine Rn.ldcS dX10_readLawLine_14 sm_X10_218 ?_
  refine Rn.callV (As := [_]) dX10_readLawLine_16 mv_X10_117 (by first | rfl | exact gC0 (by assumption) | exact gL0 (by assumption)) rfl rfl rfl (Nat.le_of_ble_eq_true rfl) (cx_isWord G (d + 25) (PS I p b q s V) 12 b (by decide) hT.ps hb (by rw [← hp]; rfl) (by rfl)) (fun _ _ h => h) (fun v J h => ?_)
  obtain ⟨rfl, ⟨n1, rfl⟩ | ⟨h4, rfl, h5⟩⟩ := h
  rotate_left
  · have ho : gHead c e b = gNum c e (nI 60) (nx c e b) := by
      rw [hz_12] at h4
      unfold gHead
      rw [if_neg (by rw [h4]; decide), if_pos (Or.inl h4)]
    refine Rn.if_eq (tgt := 26) dX10_readLawLine_19 (by decide) (fun h9 => absurd h9 (by decide)) (fun _ => ?_)
    refine Rn.iconst (v := (nI 0)) dX10_readLawLine_22 rfl ?_
    refine Rn.goto 53 dX10_readLawLine_23 (by decide) ?_
    refine Rn.iastN dX10_readLawLine_53 (by first | rfl | exact gC1 (by assumption) | exact gC2 (by assumption) | exact gC3 (by assumption) | exact gL1 (by assumption) | exact gL2 (by assumption) | exact gL3 (by assumption) | exact gL4 (by assumption) | exact gL5 (by assumption) | exact gL6 (by assumption)) ?_
    refine Rn.hpp _ (PS_95 _ _ _ _ _ _ _ _) ?_
    refine Rn.aload_n dX10_readLawLine_54 rfl rfl ?_
    refine Rn.getR dX10_readLawLine_55 fd_X10_13_9 (by first | rfl | exact gC0 (by assumption) | exact gL0 (by assumption)) rfl ?_
    refine Rn.iload_n dX10_readLawLine_58 rfl rfl ?_
    refine Rn.ialdN dX10_readLawLine_59 (by first | rfl | exact gC1 (by assumption) | exact gC2 (by assumption) | exact gC3 (by assumption) | exact gL1 (by assumption) | exact gL2 (by assumption) | exact gL3 (by assumption) | exact gL4 (by assumption) | exact gL5 (by assumption) | exact gL6 (by assumption)) ?_
    refine Rn.topI (nI 0) (by exact upd_at _ _ _) ?_
    refine Rn.if_ge (tgt := 65) dX10_readLawLine_60 (by decide) (fun _ => ?_) (fun h9 => absurd h9 (by decide))
    exact ll_mid G d I n p b s 0 q V hn hT _ (nx c e b) (hgo (by omega)) (by rw [← ho]; rfl) (by omega) hb (by omega) (by decide)
  rw [hz_12] at n1
  refine Rn.if_eq (tgt := 26) dX10_readLawLine_19 (by decide) (fun _ => ?_) (fun h9 => absurd h9 (by decide))
  refine Rn.aload_n dX10_readLawLine_26 rfl rfl ?_
  refine Rn.ldcS dX10_readLawLine_27 sm_X10_173 ?_
  refine Rn.callV (As := [_]) dX10_readLawLine_29 mv_X10_117 (by first | rfl | exact gC0 (by assumption) | exact gL0 (by assumption)) rfl rfl rfl (Nat.le_of_ble_eq_true rfl) (cx_isWord G (d + 25) (PS I p b q s V) 13 b (by decide) hT.ps hb (by rw [← hp]; rfl) (by rfl)) (fun _ _ h => h) (fun v J h => ?_)
  obtain ⟨rfl, ⟨n2, rfl⟩ | ⟨h4, rfl, h5⟩⟩ := h
  rotate_left
  · have ho : gHead c e b = gNum c e (nI 60) (nx c e b) := by
      rw [hz_13] at h4
      unfold gHead
      rw [if_neg (by rw [h4]; decide), if_pos (Or.inr h4)]
    refine Rn.if_eq (tgt := 39) dX10_readLawLine_32 (by decide) (fun h9 => absurd h9 (by decide)) (fun _ => ?_)
    refine Rn.iconst (v := (nI 1)) dX10_readLawLine_35 rfl ?_
    refine Rn.goto 53 dX10_readLawLine_36 (by decide) ?_
    refine Rn.iastN dX10_readLawLine_53 (by first | rfl | exact gC1 (by assumption) | exact gC2 (by assumption) | exact gC3 (by assumption) | exact gL1 (by assumption) | exact gL2 (by assumption) | exact gL3 (by assumption) | exact gL4 (by assumption) | exact gL5 (by assumption) | exact gL6 (by assumption)) ?_
    refine Rn.hpp _ (PS_95 _ _ _ _ _ _ _ _) ?_
    refine Rn.aload_n dX10_readLawLine_54 rfl rfl ?_
    refine Rn.getR dX10_readLawLine_55 fd_X10_13_9 (by first | rfl | exact gC0 (by assumption) | exact gL0 (by assumption)) rfl ?_
    refine Rn.iload_n dX10_readLawLine_58 rfl rfl ?_
    refine Rn.ialdN dX10_readLawLine_59 (by first | rfl | exact gC1 (by assumption) | exact gC2 (by assumption) | exact gC3 (by assumption) | exact gL1 (by assumption) | exact gL2 (by assumption) | exact gL3 (by assumption) | exact gL4 (by assumption) | exact gL5 (by assumption) | exact gL6 (by assumption)) ?_
    refine Rn.topI (nI 1) (by exact upd_at _ _ _) ?_
    refine Rn.if_ge (tgt := 65) dX10_readLawLine_60 (by decide) (fun _ => ?_) (fun h9 => absurd h9 (by decide))
    exact ll_mid G d I n p b s 1 q V hn hT _ (nx c e b) (hgo (by omega)) (by rw [← ho]; rfl) (by omega) hb (by omega) (by decide)
  rw [hz_13] at n2
  refine Rn.if_eq (tgt := 39) dX10_readLawLine_32 (by decide) (fun _ => ?_) (fun h9 => absurd h9 (by decide))
  refine Rn.aload_n dX10_readLawLine_39 rfl rfl ?_
  refine Rn.ldcS dX10_readLawLine_40 sm_X10_220 ?_
  refine Rn.callV (As := [_]) dX10_readLawLine_42 mv_X10_117 (by first | rfl | exact gC0 (by assumption) | exact gL0 (by assumption)) rfl rfl rfl (Nat.le_of_ble_eq_true rfl) (cx_isWord G (d + 25) (PS I p b q s V) 14 b (by decide) hT.ps hb (by rw [← hp]; rfl) (by rfl)) (fun _ _ h => h) (fun v J h => ?_)
  obtain ⟨rfl, ⟨n3, rfl⟩ | ⟨h4, rfl, h5⟩⟩ := h
  · rw [hz_14] at n3
    have ho : gHead c e b = .inl b := by
      unfold gHead
      rw [if_neg n3, if_neg (fun z => z.elim n1 n2)]
    refine Rn.if_eq (tgt := 52) dX10_readLawLine_45 (by decide) (fun _ => ?_) (fun h9 => absurd h9 (by decide))
    refine Rn.iconst (v := (-1)) dX10_readLawLine_52 rfl ?_
    refine Rn.iastN dX10_readLawLine_53 (by first | rfl | exact gC1 (by assumption) | exact gC2 (by assumption) | exact gC3 (by assumption) | exact gL1 (by assumption) | exact gL2 (by assumption) | exact gL3 (by assumption) | exact gL4 (by assumption) | exact gL5 (by assumption) | exact gL6 (by assumption)) ?_
    refine Rn.hpp _ (PS_95 _ _ _ _ _ _ _ _) ?_
    refine Rn.aload_n dX10_readLawLine_54 rfl rfl ?_
    refine Rn.getR dX10_readLawLine_55 fd_X10_13_9 (by first | rfl | exact gC0 (by assumption) | exact gL0 (by assumption)) rfl ?_
    refine Rn.iload_n dX10_readLawLine_58 rfl rfl ?_
    refine Rn.ialdN dX10_readLawLine_59 (by first | rfl | exact gC1 (by assumption) | exact gC2 (by assumption) | exact gC3 (by assumption) | exact gL1 (by assumption) | exact gL2 (by assumption) | exact gL3 (by assumption) | exact gL4 (by assumption) | exact gL5 (by assumption) | exact gL6 (by assumption)) ?_
    refine Rn.topI (-1) (by exact upd_at _ _ _) ?_
    refine Rn.if_ge (tgt := 65) dX10_readLawLine_60 (by decide) (fun h9 => by exfalso; exact absurd h9 (by decide)) (fun _ => ?_)
    refine Rn.iconst (v := (nI 0)) dX10_readLawLine_63 rfl ?_
    exact Rn.zret dX10_readLawLine_64 rfl rfl (⟨p, b, q, s, _, rfl, Nat.le_refl _, by omega, by omega, fun j hj => by rw [upd_ne _ _ (by omega)], fun j a b => by rw [upd_ne _ _ (by omega)], Or.inl ⟨rfl, gB_l ho⟩⟩)
  · rw [hz_14] at h4
    have ho : gHead c e b = .inr (nx c e b) := if_pos h4
    refine Rn.if_eq (tgt := 52) dX10_readLawLine_45 (by decide) (fun h9 => absurd h9 (by decide)) (fun _ => ?_)
    refine Rn.iconst (v := (nI 2)) dX10_readLawLine_48 rfl ?_
    refine Rn.goto 53 dX10_readLawLine_49 (by decide) ?_
    refine Rn.iastN dX10_readLawLine_53 (by first | rfl | exact gC1 (by assumption) | exact gC2 (by assumption) | exact gC3 (by assumption) | exact gL1 (by assumption) | exact gL2 (by assumption) | exact gL3 (by assumption) | exact gL4 (by assumption) | exact gL5 (by assumption) | exact gL6 (by assumption)) ?_
    refine Rn.hpp _ (PS_95 _ _ _ _ _ _ _ _) ?_
    refine Rn.aload_n dX10_readLawLine_54 rfl rfl ?_
    refine Rn.getR dX10_readLawLine_55 fd_X10_13_9 (by first | rfl | exact gC0 (by assumption) | exact gL0 (by assumption)) rfl ?_
    refine Rn.iload_n dX10_readLawLine_58 rfl rfl ?_
    refine Rn.ialdN dX10_readLawLine_59 (by first | rfl | exact gC1 (by assumption) | exact gC2 (by assumption) | exact gC3 (by assumption) | exact gL1 (by assumption) | exact gL2 (by assumption) | exact gL3 (by assumption) | exact gL4 (by assumption) | exact gL5 (by assumption) | exact gL6 (by assumption)) ?_
    refine Rn.topI (nI 2) (by exact upd_at _ _ _) ?_
    refine Rn.if_ge (tgt := 65) dX10_readLawLine_60 (by decide) (fun _ => ?_) (fun h9 => absurd h9 (by decide))
    refine Rn.aload_n dX10_readLawLine_65 rfl rfl ?_
    refine Rn.getR dX10_readLawLine_66 fd_X10_13_9 (by first | rfl | exact gC0 (by assumption) | exact gL0 (by assumption)) rfl ?_
    refine Rn.iload_n dX10_readLawLine_69 rfl rfl ?_
    refine Rn.iconst (v := (nI 1)) dX10_readLawLine_70 rfl ?_
    refine Rn.iadd dX10_readLawLine_71 ?_
    refine Rn.aload_n dX10_readLawLine_72 rfl rfl ?_
    refine Rn.getR dX10_readLawLine_73 fd_X10_13_9 (by first | rfl | exact gC0 (by assumption) | exact gL0 (by assumption)) rfl ?_
    refine Rn.iload_n dX10_readLawLine_76 rfl rfl ?_
    refine Rn.ialdN dX10_readLawLine_77 (by first | rfl | exact gC1 (by assumption) | exact gC2 (by assumption) | exact gC3 (by assumption) | exact gL1 (by assumption) | exact gL2 (by assumption) | exact gL3 (by assumption) | exact gL4 (by assumption) | exact gL5 (by assumption) | exact gL6 (by assumption)) ?_
    refine Rn.topI (nI 2) (by exact upd_at _ _ _) ?_
    refine Rn.iconst (v := (nI 2)) dX10_readLawLine_78 rfl ?_
    refine Rn.icmp_ne (tgt := 86) dX10_readLawLine_79 (by decide) (fun h9 => absurd h9 (by decide)) (fun _ => ?_)
    refine Rn.iconst (v := (nI 1)) dX10_readLawLine_82 rfl ?_
    refine Rn.goto 93 dX10_readLawLine_83 (by decide) ?_
    refine Rn.secI (nI (1228 + 4 * n)) (by first | rfl | (simp only [nI_add, pk_mul, nI_1]; done) | (simp only [nI_add, pk_mul, nI_1]; congr 1; omega)) ?_
    refine Rn.iastN dX10_readLawLine_93 (by first | rfl | exact gC1 (by assumption) | exact gC2 (by assumption) | exact gC3 (by assumption) | exact gL1 (by assumption) | exact gL2 (by assumption) | exact gL3 (by assumption) | exact gL4 (by assumption) | exact gL5 (by assumption) | exact gL6 (by assumption)) ?_
    refine Rn.hpp _ (PS_95 _ _ _ _ _ _ _ _) ?_
    refine Rn.aload_n dX10_readLawLine_94 rfl rfl ?_
    refine Rn.getR dX10_readLawLine_95 fd_X10_13_9 (by first | rfl | exact gC0 (by assumption) | exact gL0 (by assumption)) rfl ?_
    refine Rn.iload_n dX10_readLawLine_98 rfl rfl ?_
    refine Rn.iconst (v := (nI 1)) dX10_readLawLine_99 rfl ?_
    refine Rn.iadd dX10_readLawLine_100 ?_
    refine Rn.topI (nI (1228 + 4 * n)) (by first | rfl | (simp only [nI_add, pk_mul, nI_1]; done) | (simp only [nI_add, pk_mul, nI_1]; congr 1; omega)) ?_
    refine Rn.ialdN dX10_readLawLine_101 (by first | rfl | exact gC1 (by assumption) | exact gC2 (by assumption) | exact gC3 (by assumption) | exact gL1 (by assumption) | exact gL2 (by assumption) | exact gL3 (by assumption) | exact gL4 (by assumption) | exact gL5 (by assumption) | exact gL6 (by assumption)) ?_
    refine Rn.topI (nI 1) (by exact upd_at _ _ _) ?_
    refine Rn.if_ge (tgt := 107) dX10_readLawLine_102 (by decide) (fun _ => ?_) (fun h9 => absurd h9 (by decide))
    exact ll_tail G d I n p s V hn hT _ p b q _ (nx c e b) (hgo (by omega)) (by unfold gLine; rw [gB_r ho]) (Nat.le_refl _) (by omega) (by omega) (by omega) (fun j hj => by rw [upd_ne _ _ (by omega), upd_ne _ _ (by omega)]) (fun j a b => by rw [upd_ne _ _ (by omega), upd_ne _ _ (by omega)]) (by rw [upd_at]; exact iv_nI (n := 60) (by decide) (by decide))
theorem ct_lineL (I : Hi) (n p b s q : Nat) (V : Nat → Int32) (q0 : Nat) (hn : n < 1000) (hT : TY I c e) (hp : p ≤ e) (hb : b ≤ e) (hs : s ≤ p) (h0 : bl c e p = q0) : Ct G GAM mX10_readLine (d + 31) 0 [.ref 94, .int (nI 0), .int (nI n)] (PS I p b q s V) (Rv (LL c e I p n s V (if n < 12 then gLine c e q0 else .inl q0))) := by
  have he := hT.1
  refine Ct.mk [some (.ref 94), some (.int (nI 0)), some (.int (nI n))] ?_
  refine Rn.aload_n dX10_readLine_0 rfl rfl ?_
  refine Rn.callV (As := []) dX10_readLine_1 mv_X10_114 (by first | rfl | exact gC0 (by assumption) | exact gL0 (by assumption)) rfl rfl rfl (Nat.le_of_ble_eq_true rfl) (cx_letters G (d + 28) (PS I p b q s V) p hT.ps hp (by rfl)) (fun _ _ h => h) (fun v J h => ?_)
  obtain ⟨rfl, p1, b1, q1, q2, q3, rfl, hb1, hp1⟩ := h
  rw [h0] at hb1
  subst hb1
  refine Rn.hpp _ (PS_PB _ _ _ _ _ _ _ _) ?_
  refine Rn.iload_n dX10_readLine_4 rfl rfl ?_
  refine Rn.iload_n dX10_readLine_5 rfl rfl ?_
  refine Rn.if_eq (tgt := 14) dX10_readLine_6 (by decide) (fun _ => ?_) (fun h9 => absurd h9 (by decide))
  refine Rn.bipush (v := (nI 12)) dX10_readLine_14 rfl ?_
  refine Rn.icmp_geN dX10_readLine_16 45 (fun h1 => ?_) (fun h1 => ?_)
  · rw [if_neg (by omega)]
    refine Rn.iconst (v := (nI 0)) dX10_readLine_45 rfl ?_
    exact Rn.zret dX10_readLine_46 rfl rfl (⟨p1, b1, q, s, V, rfl, by omega, q3, by omega, fun _ _ => rfl, fun _ _ _ => rfl, Or.inl ⟨rfl, rfl⟩⟩)
  · rw [if_pos (by omega)]
    refine Rn.iload_n dX10_readLine_19 rfl rfl ?_
    refine Rn.if_eq (tgt := 33) dX10_readLine_20 (by decide) (fun _ => ?_) (fun h9 => absurd h9 (by decide))
    refine Rn.aload_n dX10_readLine_33 rfl rfl ?_
    refine Rn.iload_n dX10_readLine_34 rfl rfl ?_
    refine Rn.callV (As := [_]) dX10_readLine_35 mv_X10_227 (by first | rfl | exact gC0 (by assumption) | exact gL0 (by assumption)) rfl rfl rfl (Nat.le_of_ble_eq_true rfl) (ct_lawLine G d I n p1 b1 s q V (by omega) hT hp1 (by omega) (by omega)) (fun _ _ h => h) (fun v J h => ?_)
    obtain ⟨p2, b2, r2, s2, V2, rfl, t1, t2, t3, t4, t5, ⟨rfl, t0⟩ | ⟨rfl, t6, t7, t8, t9, t0⟩⟩ := h
    · refine Rn.if_eq (tgt := 45) dX10_readLine_38 (by decide) (fun _ => ?_) (fun h9 => absurd h9 (by decide))
      refine Rn.iconst (v := (nI 0)) dX10_readLine_45 rfl ?_
      exact Rn.zret dX10_readLine_46 rfl rfl (⟨p2, b2, r2, s2, V2, rfl, by omega, t2, t3, t4, t5, Or.inl ⟨rfl, t0⟩⟩)
    · refine Rn.if_eq (tgt := 45) dX10_readLine_38 (by decide) (fun h9 => absurd h9 (by decide)) (fun _ => ?_)
      refine Rn.iconst (v := (nI 1)) dX10_readLine_41 rfl ?_
      refine Rn.goto 46 dX10_readLine_42 (by decide) ?_
      exact Rn.zret dX10_readLine_46 rfl rfl (⟨p2, b2, r2, s2, V2, rfl, by omega, t2, t3, t4, t5, Or.inr ⟨rfl, t6, t7, t8, t9, t0⟩⟩)
/-- n lines and s steps are written -/
def LN (V : Nat → Int32) (n s : Nat) : Prop := (∀ m, m < n → ∃ bg en, lineK V m bg en ∧ bg ≤ en ∧ en ≤ s) ∧ ∀ i, i < s → V (1275 + 2 * i) = nI (opV V i)
theorem lineK.of {V V' : Nat → Int32} {m bg en s : Nat} (hm : m < 12) (hs : en ≤ s) (h : lineK V m bg en) (h1 : ∀ j, j < 1227 + 4 * (m + 1) → V' j = V j) (h2 : ∀ j, 1275 ≤ j → j < 1275 + 2 * s → V' j = V j) : lineK V' m bg en := by
  obtain ⟨a1, a2, a3, a4⟩ := h
  refine ⟨by rw [h1 _ (by omega)]; exact a1, by rw [h1 _ (by omega)]; exact a2, by rw [h1 _ (by omega)]; exact a3, a4.imp id (fun g => ?_)⟩
  obtain ⟨g1, g2, g3⟩ := g
  have eo : ∀ i, i < en → opV V' i = opV V i := fun i hi => by unfold opV; rw [h2 _ (by omega) (by omega)]
  exact ⟨g1, fun i a b => by rw [h2 _ (by omega) (by omega), eo i b]; exact g2 i a b, fun h q => sgS.congr (fun k a b => eo k (by omega)) (g3 h q)⟩
theorem LN.next {V V' : Nat → Int32} {n s s' : Nat} (hn : n < 12) (h : LN V n s) (h1 : ∀ j, j < 1227 + 4 * n → V' j = V j) (h2 : ∀ j, 1275 ≤ j → j < 1275 + 2 * s → V' j = V j) (hs : s ≤ s') (hl : lineK V' n s s') : LN V' (n + 1) s' := by
  refine ⟨fun m hm => ?_, fun i hi => ?_⟩
  · by_cases e : m = n
    · subst e
      exact ⟨s, s', hl, hs, Nat.le_refl _⟩
    · obtain ⟨bg, en, a, b, c⟩ := h.1 m (by omega)
      exact ⟨bg, en, a.of (by omega) c (fun j hj => h1 j (by omega)) h2, b, by omega⟩
  · by_cases e : i < s
    · have := h.2 i e
      unfold opV
      rw [h2 _ (by omega) (by omega)]
      exact this
    · rcases hl.2.2.2 with q | q
      · omega
      · exact q.2.1 i (by omega) hi
def RA (e : Nat) (I : Hi) (V : Nat → Int32) (o : Go) (v : Option Value) (J : Hi) : Prop := ∃ (p b q s : Nat) (V' : Nat → Int32), J = PS I p b q s V' ∧ p ≤ e ∧ b ≤ e ∧ (∀ j, j < 1226 → V' j = V j) ∧ ((v = some (.int (-1)) ∧ o = .inl b) ∨ ∃ n, v = some (.int (nI n)) ∧ n ≤ 12 ∧ s ≤ 400 ∧ LN V' n s ∧ o = .inr n)
theorem lp_readAll (I : Hi) (V0 : Nat → Int32) (hT : TY I c e) (o : Go) : ∀ (m n p b q s : Nat) (V : Nat → Int32) (q0 : Nat), n + m = 12 → bl c e p = q0 → gText c e (gLine c e) m n q0 = o → p ≤ e → b ≤ e → s ≤ p → LN V n s → (∀ j, j < 1226 → V j = V0 j) → Rn G GAM mX10_readAll (kM G GAM (Rv (RA e I V0 o))) (d + 32) 0 28 [some (.ref 94), some (.int (nI 0)), some (.int (nI n))] [] (PS I p b q s V) := by
  have he := hT.1
  intro m
  induction m with
  | zero =>
    intro n p b q s V q0 hn h0 ho hp hb hs hL hV
    have ho : Sum.inl q0 = o := ho
    refine Rn.aload_n dX10_readAll_28 rfl rfl ?_
    refine Rn.iload_n dX10_readAll_29 rfl rfl ?_
    refine Rn.iload_n dX10_readAll_30 rfl rfl ?_
    refine Rn.callV (As := [_, _]) dX10_readAll_31 mv_X10_233 (by first | rfl | exact gC0 (by assumption) | exact gL0 (by assumption)) rfl rfl rfl (Nat.le_of_ble_eq_true rfl) (ct_lineL G d I n p b s q V q0 (by omega) hT hp hb hs h0) (fun _ _ h => h) (fun v J h => ?_)
    rw [if_neg (by omega)] at h
    obtain ⟨p2, b2, r2, s2, V2, rfl, t1, t2, t3, t4, t5, ⟨rfl, t0⟩ | ⟨rfl, t6, t7, t8, t9, t0⟩⟩ := h
    · refine Rn.if_ne (tgt := 39) dX10_readAll_34 (by decide) (fun h9 => absurd h9 (by decide)) (fun _ => ?_)
      refine Rn.iconst (v := (-1)) dX10_readAll_37 rfl ?_
      exact Rn.iret dX10_readAll_38 rfl (⟨p2, b2, r2, s2, V2, rfl, t2, t3, fun j hj => (t4 j (by omega)).trans (hV j hj), Or.inl ⟨rfl, ho.symm.trans t0⟩⟩)
    · exact absurd t6 (by omega)
  | succ m ih =>
    intro n p b q s V q0 hn h0 ho hp hb hs hL hV
    have ho : gB (gLine c e q0) (fun q1 => if e ≤ q1 then .inr (n + 1) else if fs c e q1 = nI 59 then gText c e (gLine c e) m (n + 1) (nx c e q1) else .inl q1) = o := ho
    refine Rn.aload_n dX10_readAll_28 rfl rfl ?_
    refine Rn.iload_n dX10_readAll_29 rfl rfl ?_
    refine Rn.iload_n dX10_readAll_30 rfl rfl ?_
    refine Rn.callV (As := [_, _]) dX10_readAll_31 mv_X10_233 (by first | rfl | exact gC0 (by assumption) | exact gL0 (by assumption)) rfl rfl rfl (Nat.le_of_ble_eq_true rfl) (ct_lineL G d I n p b s q V q0 (by omega) hT hp hb hs h0) (fun _ _ h => h) (fun v J h => ?_)
    rw [if_pos (by omega)] at h
    obtain ⟨p2, b2, r2, s2, V2, rfl, t1, t2, t3, t4, t5, ⟨rfl, t0⟩ | ⟨rfl, t6, t7, t8, t9, t0⟩⟩ := h
    · rw [gB_l t0] at ho
      refine Rn.if_ne (tgt := 39) dX10_readAll_34 (by decide) (fun h9 => absurd h9 (by decide)) (fun _ => ?_)
      refine Rn.iconst (v := (-1)) dX10_readAll_37 rfl ?_
      exact Rn.iret dX10_readAll_38 rfl (⟨p2, b2, r2, s2, V2, rfl, t2, t3, fun j hj => (t4 j (by omega)).trans (hV j hj), Or.inl ⟨rfl, ho.symm⟩⟩)
    · rw [gB_r t0] at ho
      have hL2 := hL.next t6 t4 t5 t7 t9
      have hV2 : ∀ j, j < 1226 → V2 j = V0 j := fun j hj => (t4 j (by omega)).trans (hV j hj)
      refine Rn.if_ne (tgt := 39) dX10_readAll_34 (by decide) (fun _ => ?_) (fun h9 => absurd h9 (by decide))
      refine Rn.aload_n dX10_readAll_39 rfl rfl ?_
      refine Rn.callV (As := []) dX10_readAll_40 mv_X10_102 (by first | rfl | exact gC0 (by assumption) | exact gL0 (by assumption)) rfl rfl rfl (Nat.le_of_ble_eq_true rfl) (cx_blanks G (d + 30) (PS I p2 b2 r2 s2 V2) p2 hT.ps t2 (by rfl)) (fun _ _ h => h) (fun v J h => ?_)
      obtain ⟨rfl, p3, r3, r4, rfl, r5⟩ := h
      rw [← r5] at ho
      refine Rn.hpp _ (PS_PB _ _ _ _ _ _ _ _) ?_
      refine Rn.aload_n dX10_readAll_43 rfl rfl ?_
      refine Rn.getI dX10_readAll_44 fd_X10_89_9 (by first | rfl | exact gC0 (by assumption) | exact gL0 (by assumption)) rfl ?_
      refine Rn.topI (nI p3) (by rfl) ?_
      refine Rn.aload_n dX10_readAll_47 rfl rfl ?_
      refine Rn.getI dX10_readAll_48 fd_X10_92_9 (by first | rfl | exact gC0 (by assumption) | exact gL0 (by assumption)) rfl ?_
      refine Rn.topI (nI e) (by exact hT.2.1) ?_
      refine Rn.icmp_neN dX10_readAll_51 58 (fun h5 => ?_) (fun h5 => ?_)
      · have ho : (if fs c e p3 = nI 59 then gText c e (gLine c e) m (n + 1) (nx c e p3) else .inl p3) = o := (if_neg (by omega)).symm.trans ho
        refine Rn.aload_n dX10_readAll_58 rfl rfl ?_
        refine Rn.bipush (v := (nI 59)) dX10_readAll_59 rfl ?_
        refine Rn.bipush (v := (nI 59)) dX10_readAll_61 rfl ?_
        refine Rn.callV (As := [_, _]) dX10_readAll_63 mv_X10_95 (by first | rfl | exact gC0 (by assumption) | exact gL0 (by assumption)) rfl rfl rfl (Nat.le_of_ble_eq_true rfl) (cx_isAt G (d + 31) (PS I p3 p3 r2 s2 V2) 59 59 p3 (by decide) (by decide) hT.ps r4 (by rfl)) (fun _ _ h => h) (fun v J h => ?_)
        obtain ⟨rfl, ⟨h6, rfl⟩ | ⟨h6, rfl⟩⟩ := h
        · rw [if_neg (fs_ne (by decide) (fun z => (hT.2.2 p3 z).1) (fun z => h6 ⟨z.1, by omega, by omega⟩))] at ho
          refine Rn.if_ne (tgt := 71) dX10_readAll_66 (by decide) (fun h9 => absurd h9 (by decide)) (fun _ => ?_)
          refine Rn.iconst (v := (-1)) dX10_readAll_69 rfl ?_
          exact Rn.iret dX10_readAll_70 rfl (⟨p3, p3, r2, s2, V2, rfl, r4, r4, hV2, Or.inl ⟨rfl, ho.symm⟩⟩)
        · have h7 : c p3 = 59 := by omega
          rw [if_pos (show fs c e p3 = nI 59 by rw [fs, if_pos h6.1, h7])] at ho
          refine Rn.if_ne (tgt := 71) dX10_readAll_66 (by decide) (fun _ => ?_) (fun h9 => absurd h9 (by decide))
          refine Rn.aload_n dX10_readAll_71 rfl rfl ?_
          refine Rn.dup dX10_readAll_72 rfl ?_
          refine Rn.getI dX10_readAll_73 fd_X10_89_9 (by first | rfl | exact gC0 (by assumption) | exact gL0 (by assumption)) rfl ?_
          refine Rn.topI (nI p3) (by rfl) ?_
          refine Rn.iconst (v := (nI 1)) dX10_readAll_76 rfl ?_
          refine Rn.iadd dX10_readAll_77 ?_
          refine Rn.topI (nI (p3 + 1)) (by exact nI_1 p3) ?_
          refine Rn.putI dX10_readAll_78 fp_X10_89_9 (by first | rfl | exact gC0 (by assumption) | exact gL0 (by assumption)) rfl ?_
          refine Rn.iincN dX10_readAll_81 rfl (by decide) ?_
          refine Rn.goto 28 dX10_readAll_84 (by decide) ?_
          exact Rn.hpp _ (PS_10 _ _ _ _ _ _ _) (ih (n + 1) (p3 + 1) p3 r2 s2 V2 (nx c e p3) (by omega) (nx_s (by omega) (by omega)).symm ho (by omega) r4 (by omega) hL2 hV2)
      · have ho : Sum.inr (n + 1) = o := (if_pos (by omega)).symm.trans ho
        refine Rn.iload_n dX10_readAll_54 rfl rfl ?_
        refine Rn.iconst (v := (nI 1)) dX10_readAll_55 rfl ?_
        refine Rn.iadd dX10_readAll_56 ?_
        refine Rn.topI (nI (n + 1)) (by exact nI_1 n) ?_
        exact Rn.iret dX10_readAll_57 rfl (⟨p3, p3, r2, s2, V2, rfl, r4, r4, hV2, Or.inr ⟨n + 1, rfl, by omega, by omega, hL2, ho.symm⟩⟩)
end Law
