theorem dX1_readsLine_72 : decode cX1_readsLine 72 = .ok (.aload_n 0, 1) := by decide +kernel
theorem dX1_readsLine_73 : decode cX1_readsLine 73 = .ok (.getfield 21, 3) := by decide +kernel
theorem dX1_readsLine_76 : decode cX1_readsLine 76 = .ok (.ldc 42, 2) := by decide +kernel
theorem dX1_readsLine_78 : decode cX1_readsLine 78 = .ok (.invokevirtual 26, 3) := by decide +kernel
theorem dX1_readsLine_81 : decode cX1_readsLine 81 = .ok (.ifCond .eq 36, 3) := by decide +kernel
theorem dX1_readsLine_84 : decode cX1_readsLine 84 = .ok (.aload_n 0, 1) := by decide +kernel
theorem dX1_readsLine_85 : decode cX1_readsLine 85 = .ok (.getfield 9, 3) := by decide +kernel
theorem dX1_readsLine_88 : decode cX1_readsLine 88 = .ok (.aload_n 0, 1) := by decide +kernel
theorem dX1_readsLine_89 : decode cX1_readsLine 89 = .ok (.getfield 21, 3) := by decide +kernel
theorem dX1_readsLine_92 : decode cX1_readsLine 92 = .ok (.bipush 50, 2) := by decide +kernel
theorem dX1_readsLine_94 : decode cX1_readsLine 94 = .ok (.invokevirtual 43, 3) := by decide +kernel
theorem dX1_readsLine_97 : decode cX1_readsLine 97 = .ok (.putfield 47, 3) := by decide +kernel
theorem dX1_readsLine_100 : decode cX1_readsLine 100 = .ok (.aload_n 0, 1) := by decide +kernel
theorem dX1_readsLine_101 : decode cX1_readsLine 101 = .ok (.getfield 9, 3) := by decide +kernel
theorem dX1_readsLine_104 : decode cX1_readsLine 104 = .ok (.getfield 47, 3) := by decide +kernel
theorem dX1_readsLine_107 : decode cX1_readsLine 107 = .ok (.iconst (-1), 1) := by decide +kernel
theorem dX1_readsLine_108 : decode cX1_readsLine 108 = .ok (.if_icmp .eq 7, 3) := by decide +kernel
theorem dX1_readsLine_115 : decode cX1_readsLine 115 = .ok (.iconst 0, 1) := by decide +kernel
theorem dX1_readsLine_116 : decode cX1_readsLine 116 = .ok (.ireturn, 1) := by decide +kernel
theorem dX1_readsLine_111 : decode cX1_readsLine 111 = .ok (.iconst 1, 1) := by decide +kernel
theorem dX1_readsLine_112 : decode cX1_readsLine 112 = .ok (.goto 4, 3) := by decide +kernel
theorem dX1_readsLine_117 : decode cX1_readsLine 117 = .ok (.aload_n 0, 1) := by decide +kernel
theorem dX1_readsLine_118 : decode cX1_readsLine 118 = .ok (.getfield 21, 3) := by decide +kernel
theorem dX1_readsLine_121 : decode cX1_readsLine 121 = .ok (.ldc 50, 2) := by decide +kernel
theorem dX1_readsLine_123 : decode cX1_readsLine 123 = .ok (.invokevirtual 26, 3) := by decide +kernel
theorem dX1_readsLine_126 : decode cX1_readsLine 126 = .ok (.ifCond .eq 36, 3) := by decide +kernel
theorem dX1_readsLine_129 : decode cX1_readsLine 129 = .ok (.aload_n 0, 1) := by decide +kernel
theorem dX1_readsLine_130 : decode cX1_readsLine 130 = .ok (.getfield 9, 3) := by decide +kernel
theorem dX1_readsLine_133 : decode cX1_readsLine 133 = .ok (.aload_n 0, 1) := by decide +kernel
theorem dX1_readsLine_134 : decode cX1_readsLine 134 = .ok (.getfield 21, 3) := by decide +kernel
theorem dX1_readsLine_137 : decode cX1_readsLine 137 = .ok (.bipush 100, 2) := by decide +kernel
theorem dX1_readsLine_139 : decode cX1_readsLine 139 = .ok (.invokevirtual 43, 3) := by decide +kernel
theorem dX1_readsLine_142 : decode cX1_readsLine 142 = .ok (.putfield 51, 3) := by decide +kernel
theorem dX1_readsLine_145 : decode cX1_readsLine 145 = .ok (.aload_n 0, 1) := by decide +kernel
theorem dX1_readsLine_146 : decode cX1_readsLine 146 = .ok (.getfield 9, 3) := by decide +kernel
theorem dX1_readsLine_149 : decode cX1_readsLine 149 = .ok (.getfield 51, 3) := by decide +kernel
theorem dX1_readsLine_152 : decode cX1_readsLine 152 = .ok (.iconst (-1), 1) := by decide +kernel
theorem dX1_readsLine_153 : decode cX1_readsLine 153 = .ok (.if_icmp .eq 7, 3) := by decide +kernel
theorem dX1_readsLine_160 : decode cX1_readsLine 160 = .ok (.iconst 0, 1) := by decide +kernel
theorem dX1_readsLine_161 : decode cX1_readsLine 161 = .ok (.ireturn, 1) := by decide +kernel
theorem dX1_readsLine_156 : decode cX1_readsLine 156 = .ok (.iconst 1, 1) := by decide +kernel
theorem dX1_readsLine_157 : decode cX1_readsLine 157 = .ok (.goto 4, 3) := by decide +kernel
theorem dX1_readsLine_162 : decode cX1_readsLine 162 = .ok (.aload_n 0, 1) := by decide +kernel
theorem dX1_readsLine_163 : decode cX1_readsLine 163 = .ok (.getfield 21, 3) := by decide +kernel
theorem dX1_readsLine_166 : decode cX1_readsLine 166 = .ok (.sipush 4153, 3) := by decide +kernel
theorem dX1_readsLine_169 : decode cX1_readsLine 169 = .ok (.invokevirtual 26, 3) := by decide +kernel
theorem dX1_readsLine_172 : decode cX1_readsLine 172 = .ok (.ifCond .eq 37, 3) := by decide +kernel
theorem dX1_readsLine_175 : decode cX1_readsLine 175 = .ok (.aload_n 0, 1) := by decide +kernel
theorem dX1_readsLine_176 : decode cX1_readsLine 176 = .ok (.getfield 9, 3) := by decide +kernel
theorem dX1_readsLine_179 : decode cX1_readsLine 179 = .ok (.aload_n 0, 1) := by decide +kernel
theorem dX1_readsLine_180 : decode cX1_readsLine 180 = .ok (.getfield 21, 3) := by decide +kernel
theorem dX1_readsLine_183 : decode cX1_readsLine 183 = .ok (.sipush 999, 3) := by decide +kernel
theorem dX1_readsLine_186 : decode cX1_readsLine 186 = .ok (.invokevirtual 43, 3) := by decide +kernel
theorem dX1_readsLine_189 : decode cX1_readsLine 189 = .ok (.putfield 54, 3) := by decide +kernel
theorem dX1_readsLine_192 : decode cX1_readsLine 192 = .ok (.aload_n 0, 1) := by decide +kernel
theorem dX1_readsLine_193 : decode cX1_readsLine 193 = .ok (.getfield 9, 3) := by decide +kernel
theorem dX1_readsLine_196 : decode cX1_readsLine 196 = .ok (.getfield 54, 3) := by decide +kernel
theorem dX1_readsLine_199 : decode cX1_readsLine 199 = .ok (.iconst (-1), 1) := by decide +kernel
theorem dX1_readsLine_200 : decode cX1_readsLine 200 = .ok (.if_icmp .eq 7, 3) := by decide +kernel
theorem dX1_readsLine_207 : decode cX1_readsLine 207 = .ok (.iconst 0, 1) := by decide +kernel
theorem dX1_readsLine_208 : decode cX1_readsLine 208 = .ok (.ireturn, 1) := by decide +kernel
theorem dX1_readsLine_203 : decode cX1_readsLine 203 = .ok (.iconst 1, 1) := by decide +kernel
theorem dX1_readsLine_204 : decode cX1_readsLine 204 = .ok (.goto 4, 3) := by decide +kernel
theorem dX1_readsLine_209 : decode cX1_readsLine 209 = .ok (.iconst 0, 1) := by decide +kernel
theorem dX1_readsLine_210 : decode cX1_readsLine 210 = .ok (.ireturn, 1) := by decide +kernel
theorem dX1_readsLine_36 : decode cX1_readsLine 36 = .ok (.aload_n 0, 1) := by decide +kernel
theorem dX1_readsLine_37 : decode cX1_readsLine 37 = .ok (.getfield 9, 3) := by decide +kernel
theorem dX1_readsLine_40 : decode cX1_readsLine 40 = .ok (.getfield 35, 3) := by decide +kernel
theorem dX1_readsLine_43 : decode cX1_readsLine 43 = .ok (.bipush 8, 2) := by decide +kernel
theorem dX1_readsLine_45 : decode cX1_readsLine 45 = .ok (.if_icmp .ge 27, 3) := by decide +kernel
theorem dX1_readsLine_48 : decode cX1_readsLine 48 = .ok (.aload_n 0, 1) := by decide +kernel
theorem dX1_readsLine_49 : decode cX1_readsLine 49 = .ok (.getfield 21, 3) := by decide +kernel
theorem dX1_readsLine_52 : decode cX1_readsLine 52 = .ok (.ldc 38, 2) := by decide +kernel
theorem dX1_readsLine_54 : decode cX1_readsLine 54 = .ok (.invokevirtual 26, 3) := by decide +kernel
theorem dX1_readsLine_57 : decode cX1_readsLine 57 = .ok (.ifCond .eq 15, 3) := by decide +kernel
theorem dX1_readsLine_60 : decode cX1_readsLine 60 = .ok (.aload_n 0, 1) := by decide +kernel
theorem dX1_readsLine_61 : decode cX1_readsLine 61 = .ok (.aload_n 0, 1) := by decide +kernel
theorem dX1_readsLine_62 : decode cX1_readsLine 62 = .ok (.getfield 9, 3) := by decide +kernel
theorem dX1_readsLine_65 : decode cX1_readsLine 65 = .ok (.getfield 35, 3) := by decide +kernel
theorem dX1_readsLine_68 : decode cX1_readsLine 68 = .ok (.invokevirtual 39, 3) := by decide +kernel
theorem dX1_readsLine_71 : decode cX1_readsLine 71 = .ok (.ireturn, 1) := by decide +kernel
theorem dX1_readsLine_0 : decode cX1_readsLine 0 = .ok (.aload_n 0, 1) := by decide +kernel
theorem dX1_readsLine_1 : decode cX1_readsLine 1 = .ok (.getfield 9, 3) := by decide +kernel
theorem dX1_readsLine_4 : decode cX1_readsLine 4 = .ok (.getfield 15, 3) := by decide +kernel
theorem dX1_readsLine_7 : decode cX1_readsLine 7 = .ok (.bipush 8, 2) := by decide +kernel
theorem dX1_readsLine_9 : decode cX1_readsLine 9 = .ok (.if_icmp .ge 27, 3) := by decide +kernel
theorem dX1_readsLine_12 : decode cX1_readsLine 12 = .ok (.aload_n 0, 1) := by decide +kernel
theorem dX1_readsLine_13 : decode cX1_readsLine 13 = .ok (.getfield 21, 3) := by decide +kernel
theorem dX1_readsLine_16 : decode cX1_readsLine 16 = .ok (.ldc 25, 2) := by decide +kernel
theorem dX1_readsLine_18 : decode cX1_readsLine 18 = .ok (.invokevirtual 26, 3) := by decide +kernel
theorem dX1_readsLine_21 : decode cX1_readsLine 21 = .ok (.ifCond .eq 15, 3) := by decide +kernel
theorem dX1_readsLine_24 : decode cX1_readsLine 24 = .ok (.aload_n 0, 1) := by decide +kernel
theorem dX1_readsLine_25 : decode cX1_readsLine 25 = .ok (.aload_n 0, 1) := by decide +kernel
theorem dX1_readsLine_26 : decode cX1_readsLine 26 = .ok (.getfield 9, 3) := by decide +kernel
theorem dX1_readsLine_29 : decode cX1_readsLine 29 = .ok (.getfield 15, 3) := by decide +kernel
theorem dX1_readsLine_32 : decode cX1_readsLine 32 = .ok (.invokevirtual 32, 3) := by decide +kernel
theorem dX1_readsLine_35 : decode cX1_readsLine 35 = .ok (.ireturn, 1) := by decide +kernel
theorem dX0_copyFrom_0 : decode cX0_copyFrom 0 = .ok (.aload_n 0, 1) := by decide +kernel
theorem dX0_copyFrom_1 : decode cX0_copyFrom 1 = .ok (.aload_n 1, 1) := by decide +kernel
theorem dX0_copyFrom_2 : decode cX0_copyFrom 2 = .ok (.getfield 31, 3) := by decide +kernel
theorem dX0_copyFrom_5 : decode cX0_copyFrom 5 = .ok (.putfield 31, 3) := by decide +kernel
theorem dX0_copyFrom_8 : decode cX0_copyFrom 8 = .ok (.aload_n 0, 1) := by decide +kernel
theorem dX0_copyFrom_9 : decode cX0_copyFrom 9 = .ok (.aload_n 1, 1) := by decide +kernel
theorem dX0_copyFrom_10 : decode cX0_copyFrom 10 = .ok (.getfield 34, 3) := by decide +kernel
theorem dX0_copyFrom_13 : decode cX0_copyFrom 13 = .ok (.putfield 34, 3) := by decide +kernel
theorem dX0_copyFrom_16 : decode cX0_copyFrom 16 = .ok (.aload_n 0, 1) := by decide +kernel
theorem dX0_copyFrom_17 : decode cX0_copyFrom 17 = .ok (.aload_n 1, 1) := by decide +kernel
theorem dX0_copyFrom_18 : decode cX0_copyFrom 18 = .ok (.getfield 37, 3) := by decide +kernel
theorem dX0_copyFrom_21 : decode cX0_copyFrom 21 = .ok (.putfield 37, 3) := by decide +kernel
theorem dX0_copyFrom_24 : decode cX0_copyFrom 24 = .ok (.aload_n 0, 1) := by decide +kernel
theorem dX0_copyFrom_25 : decode cX0_copyFrom 25 = .ok (.aload_n 1, 1) := by decide +kernel
theorem dX0_copyFrom_26 : decode cX0_copyFrom 26 = .ok (.getfield 40, 3) := by decide +kernel
theorem dX0_copyFrom_29 : decode cX0_copyFrom 29 = .ok (.putfield 40, 3) := by decide +kernel
theorem dX0_copyFrom_32 : decode cX0_copyFrom 32 = .ok (.aload_n 0, 1) := by decide +kernel
theorem dX0_copyFrom_33 : decode cX0_copyFrom 33 = .ok (.aload_n 1, 1) := by decide +kernel
theorem dX0_copyFrom_34 : decode cX0_copyFrom 34 = .ok (.getfield 9, 3) := by decide +kernel
theorem dX0_copyFrom_37 : decode cX0_copyFrom 37 = .ok (.putfield 9, 3) := by decide +kernel
theorem dX0_copyFrom_40 : decode cX0_copyFrom 40 = .ok (.aload_n 0, 1) := by decide +kernel
theorem dX0_copyFrom_41 : decode cX0_copyFrom 41 = .ok (.aload_n 1, 1) := by decide +kernel
theorem dX0_copyFrom_42 : decode cX0_copyFrom 42 = .ok (.getfield 15, 3) := by decide +kernel
theorem dX0_copyFrom_45 : decode cX0_copyFrom 45 = .ok (.putfield 15, 3) := by decide +kernel
theorem dX0_copyFrom_48 : decode cX0_copyFrom 48 = .ok (.aload_n 0, 1) := by decide +kernel
theorem dX0_copyFrom_49 : decode cX0_copyFrom 49 = .ok (.aload_n 1, 1) := by decide +kernel
theorem dX0_copyFrom_50 : decode cX0_copyFrom 50 = .ok (.getfield 18, 3) := by decide +kernel
theorem dX0_copyFrom_53 : decode cX0_copyFrom 53 = .ok (.putfield 18, 3) := by decide +kernel
theorem dX0_copyFrom_56 : decode cX0_copyFrom 56 = .ok (.aload_n 0, 1) := by decide +kernel
theorem dX0_copyFrom_57 : decode cX0_copyFrom 57 = .ok (.aload_n 1, 1) := by decide +kernel
theorem dX0_copyFrom_58 : decode cX0_copyFrom 58 = .ok (.getfield 43, 3) := by decide +kernel
theorem dX0_copyFrom_61 : decode cX0_copyFrom 61 = .ok (.putfield 43, 3) := by decide +kernel
theorem dX0_copyFrom_64 : decode cX0_copyFrom 64 = .ok (.aload_n 0, 1) := by decide +kernel
theorem dX0_copyFrom_65 : decode cX0_copyFrom 65 = .ok (.aload_n 1, 1) := by decide +kernel
theorem dX0_copyFrom_66 : decode cX0_copyFrom 66 = .ok (.getfield 46, 3) := by decide +kernel
theorem dX0_copyFrom_69 : decode cX0_copyFrom 69 = .ok (.putfield 46, 3) := by decide +kernel
theorem dX0_copyFrom_72 : decode cX0_copyFrom 72 = .ok (.aload_n 1, 1) := by decide +kernel
theorem dX0_copyFrom_73 : decode cX0_copyFrom 73 = .ok (.getfield 21, 3) := by decide +kernel
theorem dX0_copyFrom_76 : decode cX0_copyFrom 76 = .ok (.iconst 0, 1) := by decide +kernel
theorem dX0_copyFrom_77 : decode cX0_copyFrom 77 = .ok (.aload_n 0, 1) := by decide +kernel
theorem dX0_copyFrom_78 : decode cX0_copyFrom 78 = .ok (.getfield 21, 3) := by decide +kernel
theorem dX0_copyFrom_81 : decode cX0_copyFrom 81 = .ok (.iconst 0, 1) := by decide +kernel
theorem dX0_copyFrom_82 : decode cX0_copyFrom 82 = .ok (.bipush 56, 2) := by decide +kernel
theorem dX0_copyFrom_84 : decode cX0_copyFrom 84 = .ok (.invokestatic 49, 3) := by decide +kernel
theorem dX0_copyFrom_87 : decode cX0_copyFrom 87 = .ok (.aload_n 1, 1) := by decide +kernel
theorem dX0_copyFrom_88 : decode cX0_copyFrom 88 = .ok (.getfield 25, 3) := by decide +kernel
theorem dX0_copyFrom_91 : decode cX0_copyFrom 91 = .ok (.iconst 0, 1) := by decide +kernel
theorem dX0_copyFrom_92 : decode cX0_copyFrom 92 = .ok (.aload_n 0, 1) := by decide +kernel
theorem dX0_copyFrom_93 : decode cX0_copyFrom 93 = .ok (.getfield 25, 3) := by decide +kernel
theorem dX0_copyFrom_96 : decode cX0_copyFrom 96 = .ok (.iconst 0, 1) := by decide +kernel
theorem dX0_copyFrom_97 : decode cX0_copyFrom 97 = .ok (.bipush 72, 2) := by decide +kernel
theorem dX0_copyFrom_99 : decode cX0_copyFrom 99 = .ok (.invokestatic 49, 3) := by decide +kernel
theorem dX0_copyFrom_102 : decode cX0_copyFrom 102 = .ok (.aload_n 1, 1) := by decide +kernel
theorem dX0_copyFrom_103 : decode cX0_copyFrom 103 = .ok (.getfield 28, 3) := by decide +kernel
theorem dX0_copyFrom_106 : decode cX0_copyFrom 106 = .ok (.iconst 0, 1) := by decide +kernel
theorem dX0_copyFrom_107 : decode cX0_copyFrom 107 = .ok (.aload_n 0, 1) := by decide +kernel
theorem dX0_copyFrom_108 : decode cX0_copyFrom 108 = .ok (.getfield 28, 3) := by decide +kernel
theorem dX0_copyFrom_111 : decode cX0_copyFrom 111 = .ok (.iconst 0, 1) := by decide +kernel
theorem dX0_copyFrom_112 : decode cX0_copyFrom 112 = .ok (.sipush 240, 3) := by decide +kernel
theorem dX0_copyFrom_115 : decode cX0_copyFrom 115 = .ok (.invokestatic 49, 3) := by decide +kernel
theorem dX0_copyFrom_118 : decode cX0_copyFrom 118 = .ok (.return_, 1) := by decide +kernel
/-! the class's reader of the coast: lines, the text, coast itself -/
theorem cpy_in {f g : Nat → Int32} {n j : Nat} (h : j < n) : va_cpy f g 0 0 n j = f j := by
  show (if 0 ≤ j ∧ j < 0 + n then f (0 + (j - 0)) else g j) = f j
  rw [if_pos (by omega)]
  congr 1
  omega
section Kcl
variable (G : Gx) (d : Nat) {c : Nat → Nat} {e : Nat}
theorem kd_price (I : Hi) (st : Cs) (hT : TX I c e) (K : Hi) (hK : KD I st K) (q : Nat) (hq : q ≤ e) (o : Nat ⊕ (Cs × Nat)) (hy : wv c e q = 17376357 → cMap (gNum c e (nI 50) (nx c e q)) (fun q1 => (st, q1)) = o) (kn : wv c e q ≠ 17376357 → Rn G GAM mX1_readsLine (kM G GAM (Rv (CDl I c e o))) (d + 4) 0 117 [some (.ref 37)] [] (TQ5 K c e q)) : Rn G GAM mX1_readsLine (kM G GAM (Rv (CDl I c e o))) (d + 4) 0 72 [some (.ref 37)] [] (TQ5 K c e q) := by
  refine Rn.aload_n dX1_readsLine_72 rfl rfl ?_
  refine Rn.getR dX1_readsLine_73 fd_X1_21_1 (by first | rfl | exact gC0 (by assumption) | exact gL0 (by assumption)) rfl ?_
  refine Rn.ldc dX1_readsLine_76 kc_X1_42 ?_
  refine Rn.callV (As := [_]) dX1_readsLine_78 mv_X1_26 (by first | rfl | exact gC0 (by assumption) | exact gL0 (by assumption)) rfl rfl rfl (Nat.le_of_ble_eq_true rfl) (ct_tkW G (d + 2) K (hK.tx hT) _ q (by decide)) (fun _ _ h => h) (fun v J h => ?_)
  rcases h with ⟨h1, rfl, rfl⟩ | ⟨h1, h2, rfl, rfl⟩
  · refine Rn.if_eq (tgt := 117) dX1_readsLine_81 (by decide) (fun _ => ?_) (fun h9 => absurd h9 (by decide))
    exact kn h1
  · have ho := hy h1
    refine Rn.if_eq (tgt := 117) dX1_readsLine_81 (by decide) (fun h9 => absurd h9 (by decide)) (fun _ => ?_)
    refine Rn.aload_n dX1_readsLine_84 rfl rfl ?_
    refine Rn.getR dX1_readsLine_85 fd_X1_9_1 (by first | rfl | exact gC0 (by assumption) | exact gL0 (by assumption)) rfl ?_
    refine Rn.aload_n dX1_readsLine_88 rfl rfl ?_
    refine Rn.getR dX1_readsLine_89 fd_X1_21_1 (by first | rfl | exact gC0 (by assumption) | exact gL0 (by assumption)) rfl ?_
    refine Rn.bipush (v := (nI 50)) dX1_readsLine_92 rfl ?_
    refine Rn.callV (As := [_]) dX1_readsLine_94 mv_X1_43 (by first | rfl | exact gC0 (by assumption) | exact gL0 (by assumption)) rfl rfl rfl (Nat.le_of_ble_eq_true rfl) (ct_tkN G (d + 2) K (hK.tx hT) (nI 50) (nx c e q)) (fun _ _ h => h) (fun v J h => ?_)
    rcases h with ⟨h3, rfl, rfl⟩ | ⟨x, h3, h4, h5, rfl, rfl⟩
    · rw [cMap_l h3] at ho
      refine Rn.putI dX1_readsLine_97 fp_X1_47_0 (by first | rfl | exact gC0 (by assumption) | exact gL0 (by assumption)) rfl ?_
      refine Rn.hpp _ (TQ5_zup _ _ (by decide)) ?_
      refine Rn.aload_n dX1_readsLine_100 rfl rfl ?_
      refine Rn.getR dX1_readsLine_101 fd_X1_9_1 (by first | rfl | exact gC0 (by assumption) | exact gL0 (by assumption)) rfl ?_
      refine Rn.getI dX1_readsLine_104 fd_X1_47_0 (by first | rfl | exact gC0 (by assumption) | exact gL0 (by assumption)) rfl ?_
      refine Rn.topI (-1) (by rw [TQ5_ne (by decide), zup_at, upd_at]) ?_
      refine Rn.iconst (v := (-1)) dX1_readsLine_107 rfl ?_
      refine Rn.icmp_eq (tgt := 115) dX1_readsLine_108 (by decide) (fun _ => ?_) (fun h9 => by exfalso; exact h9 rfl)
      refine Rn.iconst (v := (nI 0)) dX1_readsLine_115 rfl ?_
      exact Rn.zret dX1_readsLine_116 rfl rfl (⟨_, _, rfl, nx_le h2, Or.inl ⟨ho.symm, rfl, st, hK.f (by decide) _⟩⟩)
    · rw [cMap_r h3] at ho
      refine Rn.putI dX1_readsLine_97 fp_X1_47_0 (by first | rfl | exact gC0 (by assumption) | exact gL0 (by assumption)) rfl ?_
      refine Rn.hpp _ (TQ5_zup _ _ (by decide)) ?_
      refine Rn.aload_n dX1_readsLine_100 rfl rfl ?_
      refine Rn.getR dX1_readsLine_101 fd_X1_9_1 (by first | rfl | exact gC0 (by assumption) | exact gL0 (by assumption)) rfl ?_
      refine Rn.getI dX1_readsLine_104 fd_X1_47_0 (by first | rfl | exact gC0 (by assumption) | exact gL0 (by assumption)) rfl ?_
      refine Rn.topI (x) (by rw [TQ5_ne (by decide), zup_at, upd_at]) ?_
      refine Rn.iconst (v := (-1)) dX1_readsLine_107 rfl ?_
      refine Rn.icmp_eq (tgt := 115) dX1_readsLine_108 (by decide) (fun h9 => by exfalso; exact h5 h9) (fun _ => ?_)
      refine Rn.iconst (v := (nI 1)) dX1_readsLine_111 rfl ?_
      refine Rn.goto 116 dX1_readsLine_112 (by decide) ?_
      exact Rn.zret dX1_readsLine_116 rfl rfl (⟨_, _, rfl, nx_le h4, Or.inr ⟨st, ho.symm, rfl, hK.f (by decide) _⟩⟩)
theorem kd_love (I : Hi) (st : Cs) (hT : TX I c e) (K : Hi) (hK : KD I st K) (q : Nat) (hq : q ≤ e) (o : Nat ⊕ (Cs × Nat)) (hy : wv c e q = 409285 → cMap (gNum c e (nI 100) (nx c e q)) (fun q1 => (st, q1)) = o) (kn : wv c e q ≠ 409285 → Rn G GAM mX1_readsLine (kM G GAM (Rv (CDl I c e o))) (d + 4) 0 162 [some (.ref 37)] [] (TQ5 K c e q)) : Rn G GAM mX1_readsLine (kM G GAM (Rv (CDl I c e o))) (d + 4) 0 117 [some (.ref 37)] [] (TQ5 K c e q) := by
  refine Rn.aload_n dX1_readsLine_117 rfl rfl ?_
  refine Rn.getR dX1_readsLine_118 fd_X1_21_1 (by first | rfl | exact gC0 (by assumption) | exact gL0 (by assumption)) rfl ?_
  refine Rn.ldc dX1_readsLine_121 kc_X1_50 ?_
  refine Rn.callV (As := [_]) dX1_readsLine_123 mv_X1_26 (by first | rfl | exact gC0 (by assumption) | exact gL0 (by assumption)) rfl rfl rfl (Nat.le_of_ble_eq_true rfl) (ct_tkW G (d + 2) K (hK.tx hT) _ q (by decide)) (fun _ _ h => h) (fun v J h => ?_)
  rcases h with ⟨h1, rfl, rfl⟩ | ⟨h1, h2, rfl, rfl⟩
  · refine Rn.if_eq (tgt := 162) dX1_readsLine_126 (by decide) (fun _ => ?_) (fun h9 => absurd h9 (by decide))
    exact kn h1
  · have ho := hy h1
    refine Rn.if_eq (tgt := 162) dX1_readsLine_126 (by decide) (fun h9 => absurd h9 (by decide)) (fun _ => ?_)
    refine Rn.aload_n dX1_readsLine_129 rfl rfl ?_
    refine Rn.getR dX1_readsLine_130 fd_X1_9_1 (by first | rfl | exact gC0 (by assumption) | exact gL0 (by assumption)) rfl ?_
    refine Rn.aload_n dX1_readsLine_133 rfl rfl ?_
    refine Rn.getR dX1_readsLine_134 fd_X1_21_1 (by first | rfl | exact gC0 (by assumption) | exact gL0 (by assumption)) rfl ?_
    refine Rn.bipush (v := (nI 100)) dX1_readsLine_137 rfl ?_
    refine Rn.callV (As := [_]) dX1_readsLine_139 mv_X1_43 (by first | rfl | exact gC0 (by assumption) | exact gL0 (by assumption)) rfl rfl rfl (Nat.le_of_ble_eq_true rfl) (ct_tkN G (d + 2) K (hK.tx hT) (nI 100) (nx c e q)) (fun _ _ h => h) (fun v J h => ?_)
    rcases h with ⟨h3, rfl, rfl⟩ | ⟨x, h3, h4, h5, rfl, rfl⟩
    · rw [cMap_l h3] at ho
      refine Rn.putI dX1_readsLine_142 fp_X1_51_0 (by first | rfl | exact gC0 (by assumption) | exact gL0 (by assumption)) rfl ?_
      refine Rn.hpp _ (TQ5_zup _ _ (by decide)) ?_
      refine Rn.aload_n dX1_readsLine_145 rfl rfl ?_
      refine Rn.getR dX1_readsLine_146 fd_X1_9_1 (by first | rfl | exact gC0 (by assumption) | exact gL0 (by assumption)) rfl ?_
      refine Rn.getI dX1_readsLine_149 fd_X1_51_0 (by first | rfl | exact gC0 (by assumption) | exact gL0 (by assumption)) rfl ?_
      refine Rn.topI (-1) (by rw [TQ5_ne (by decide), zup_at, upd_at]) ?_
      refine Rn.iconst (v := (-1)) dX1_readsLine_152 rfl ?_
      refine Rn.icmp_eq (tgt := 160) dX1_readsLine_153 (by decide) (fun _ => ?_) (fun h9 => by exfalso; exact h9 rfl)
      refine Rn.iconst (v := (nI 0)) dX1_readsLine_160 rfl ?_
      exact Rn.zret dX1_readsLine_161 rfl rfl (⟨_, _, rfl, nx_le h2, Or.inl ⟨ho.symm, rfl, st, hK.f (by decide) _⟩⟩)
    · rw [cMap_r h3] at ho
      refine Rn.putI dX1_readsLine_142 fp_X1_51_0 (by first | rfl | exact gC0 (by assumption) | exact gL0 (by assumption)) rfl ?_
      refine Rn.hpp _ (TQ5_zup _ _ (by decide)) ?_
      refine Rn.aload_n dX1_readsLine_145 rfl rfl ?_
      refine Rn.getR dX1_readsLine_146 fd_X1_9_1 (by first | rfl | exact gC0 (by assumption) | exact gL0 (by assumption)) rfl ?_
      refine Rn.getI dX1_readsLine_149 fd_X1_51_0 (by first | rfl | exact gC0 (by assumption) | exact gL0 (by assumption)) rfl ?_
      refine Rn.topI (x) (by rw [TQ5_ne (by decide), zup_at, upd_at]) ?_
      refine Rn.iconst (v := (-1)) dX1_readsLine_152 rfl ?_
      refine Rn.icmp_eq (tgt := 160) dX1_readsLine_153 (by decide) (fun h9 => by exfalso; exact h5 h9) (fun _ => ?_)
      refine Rn.iconst (v := (nI 1)) dX1_readsLine_156 rfl ?_
      refine Rn.goto 161 dX1_readsLine_157 (by decide) ?_
      exact Rn.zret dX1_readsLine_161 rfl rfl (⟨_, _, rfl, nx_le h4, Or.inr ⟨st, ho.symm, rfl, hK.f (by decide) _⟩⟩)
theorem kd_day (I : Hi) (st : Cs) (hT : TX I c e) (K : Hi) (hK : KD I st K) (q : Nat) (hq : q ≤ e) (o : Nat ⊕ (Cs × Nat)) (hy : wv c e q = 4153 → cMap (gNum c e (nI 999) (nx c e q)) (fun q1 => (st, q1)) = o) (kn : wv c e q ≠ 4153 → Rn G GAM mX1_readsLine (kM G GAM (Rv (CDl I c e o))) (d + 4) 0 209 [some (.ref 37)] [] (TQ5 K c e q)) : Rn G GAM mX1_readsLine (kM G GAM (Rv (CDl I c e o))) (d + 4) 0 162 [some (.ref 37)] [] (TQ5 K c e q) := by
  refine Rn.aload_n dX1_readsLine_162 rfl rfl ?_
  refine Rn.getR dX1_readsLine_163 fd_X1_21_1 (by first | rfl | exact gC0 (by assumption) | exact gL0 (by assumption)) rfl ?_
  refine Rn.sipush (v := (nI 4153)) dX1_readsLine_166 rfl ?_
  refine Rn.callV (As := [_]) dX1_readsLine_169 mv_X1_26 (by first | rfl | exact gC0 (by assumption) | exact gL0 (by assumption)) rfl rfl rfl (Nat.le_of_ble_eq_true rfl) (ct_tkW G (d + 2) K (hK.tx hT) _ q (by decide)) (fun _ _ h => h) (fun v J h => ?_)
  rcases h with ⟨h1, rfl, rfl⟩ | ⟨h1, h2, rfl, rfl⟩
  · refine Rn.if_eq (tgt := 209) dX1_readsLine_172 (by decide) (fun _ => ?_) (fun h9 => absurd h9 (by decide))
    exact kn h1
  · have ho := hy h1
    refine Rn.if_eq (tgt := 209) dX1_readsLine_172 (by decide) (fun h9 => absurd h9 (by decide)) (fun _ => ?_)
    refine Rn.aload_n dX1_readsLine_175 rfl rfl ?_
    refine Rn.getR dX1_readsLine_176 fd_X1_9_1 (by first | rfl | exact gC0 (by assumption) | exact gL0 (by assumption)) rfl ?_
    refine Rn.aload_n dX1_readsLine_179 rfl rfl ?_
    refine Rn.getR dX1_readsLine_180 fd_X1_21_1 (by first | rfl | exact gC0 (by assumption) | exact gL0 (by assumption)) rfl ?_
    refine Rn.sipush (v := (nI 999)) dX1_readsLine_183 rfl ?_
    refine Rn.callV (As := [_]) dX1_readsLine_186 mv_X1_43 (by first | rfl | exact gC0 (by assumption) | exact gL0 (by assumption)) rfl rfl rfl (Nat.le_of_ble_eq_true rfl) (ct_tkN G (d + 2) K (hK.tx hT) (nI 999) (nx c e q)) (fun _ _ h => h) (fun v J h => ?_)
    rcases h with ⟨h3, rfl, rfl⟩ | ⟨x, h3, h4, h5, rfl, rfl⟩
    · rw [cMap_l h3] at ho
      refine Rn.putI dX1_readsLine_189 fp_X1_54_0 (by first | rfl | exact gC0 (by assumption) | exact gL0 (by assumption)) rfl ?_
      refine Rn.hpp _ (TQ5_zup _ _ (by decide)) ?_
      refine Rn.aload_n dX1_readsLine_192 rfl rfl ?_
      refine Rn.getR dX1_readsLine_193 fd_X1_9_1 (by first | rfl | exact gC0 (by assumption) | exact gL0 (by assumption)) rfl ?_
      refine Rn.getI dX1_readsLine_196 fd_X1_54_0 (by first | rfl | exact gC0 (by assumption) | exact gL0 (by assumption)) rfl ?_
      refine Rn.topI (-1) (by rw [TQ5_ne (by decide), zup_at, upd_at]) ?_
      refine Rn.iconst (v := (-1)) dX1_readsLine_199 rfl ?_
      refine Rn.icmp_eq (tgt := 207) dX1_readsLine_200 (by decide) (fun _ => ?_) (fun h9 => by exfalso; exact h9 rfl)
      refine Rn.iconst (v := (nI 0)) dX1_readsLine_207 rfl ?_
      exact Rn.zret dX1_readsLine_208 rfl rfl (⟨_, _, rfl, nx_le h2, Or.inl ⟨ho.symm, rfl, st, hK.f (by decide) _⟩⟩)
    · rw [cMap_r h3] at ho
      refine Rn.putI dX1_readsLine_189 fp_X1_54_0 (by first | rfl | exact gC0 (by assumption) | exact gL0 (by assumption)) rfl ?_
      refine Rn.hpp _ (TQ5_zup _ _ (by decide)) ?_
      refine Rn.aload_n dX1_readsLine_192 rfl rfl ?_
      refine Rn.getR dX1_readsLine_193 fd_X1_9_1 (by first | rfl | exact gC0 (by assumption) | exact gL0 (by assumption)) rfl ?_
      refine Rn.getI dX1_readsLine_196 fd_X1_54_0 (by first | rfl | exact gC0 (by assumption) | exact gL0 (by assumption)) rfl ?_
      refine Rn.topI (x) (by rw [TQ5_ne (by decide), zup_at, upd_at]) ?_
      refine Rn.iconst (v := (-1)) dX1_readsLine_199 rfl ?_
      refine Rn.icmp_eq (tgt := 207) dX1_readsLine_200 (by decide) (fun h9 => by exfalso; exact h5 h9) (fun _ => ?_)
      refine Rn.iconst (v := (nI 1)) dX1_readsLine_203 rfl ?_
      refine Rn.goto 208 dX1_readsLine_204 (by decide) ?_
      exact Rn.zret dX1_readsLine_208 rfl rfl (⟨_, _, rfl, nx_le h4, Or.inr ⟨st, ho.symm, rfl, hK.f (by decide) _⟩⟩)
theorem kd_rest (I : Hi) (st : Cs) (hT : TX I c e) (K : Hi) (hK : KD I st K) (q : Nat) (hq : q ≤ e) (h1 : wv c e q = 24622126 → ¬ st.1 < 8) (h2 : wv c e q = 21243335 → ¬ st.2.1 < 8) : Rn G GAM mX1_readsLine (kM G GAM (Rv (CDl I c e (cLine c e st q)))) (d + 4) 0 72 [some (.ref 37)] [] (TQ5 K c e q) := by
  refine kd_price G d I st hT K hK q hq _ (fun z => ?_) (fun n3 => kd_love G d I st hT K hK q hq _ (fun z => ?_) (fun n4 => kd_day G d I st hT K hK q hq _ (fun z => ?_) (fun n5 => ?_)))
  · unfold cLine
    rw [if_neg (by rw [z]; decide), if_neg (by rw [z]; decide), if_pos z]
  · unfold cLine
    rw [if_neg (by rw [z]; decide), if_neg (by rw [z]; decide), if_neg n3, if_pos z]
  · unfold cLine
    rw [if_neg (by rw [z]; decide), if_neg (by rw [z]; decide), if_neg n3, if_neg n4, if_pos z]
  · have ho : cLine c e st q = .inl q := by
      unfold cLine
      by_cases z1 : wv c e q = 24622126
      · rw [if_pos z1, if_neg (h1 z1)]
      · rw [if_neg z1]
        by_cases z2 : wv c e q = 21243335
        · rw [if_pos z2, if_neg (h2 z2)]
        · rw [if_neg z2, if_neg n3, if_neg n4, if_neg n5]
    refine Rn.iconst (v := (nI 0)) dX1_readsLine_209 rfl ?_
    exact Rn.zret dX1_readsLine_210 rfl rfl (⟨K, q, rfl, hq, Or.inl ⟨ho, rfl, st, hK⟩⟩)
theorem kd_c36 (I : Hi) (st : Cs) (hT : TX I c e) (K : Hi) (hK : KD I st K) (q : Nat) (hq : q ≤ e) (h1 : wv c e q = 24622126 → ¬ st.1 < 8) : Rn G GAM mX1_readsLine (kM G GAM (Rv (CDl I c e (cLine c e st q)))) (d + 4) 0 36 [some (.ref 37)] [] (TQ5 K c e q) := by
  obtain ⟨w, t, b⟩ := st
  have ht8 : t ≤ 8 := hK.2.2.2.2.2.2
  have e71 : (TQ5 K c e q) 7 1 = nI t := by rw [TQ5_ne (by decide)]; exact hK.2.1
  refine Rn.aload_n dX1_readsLine_36 rfl rfl ?_
  refine Rn.getR dX1_readsLine_37 fd_X1_9_1 (by first | rfl | exact gC0 (by assumption) | exact gL0 (by assumption)) rfl ?_
  refine Rn.getI dX1_readsLine_40 fd_X1_35_0 (by first | rfl | exact gC0 (by assumption) | exact gL0 (by assumption)) rfl ?_
  refine Rn.topI (nI t) (by exact e71) ?_
  refine Rn.bipush (v := (nI 8)) dX1_readsLine_43 rfl ?_
  refine Rn.icmp_geN dX1_readsLine_45 72 (fun h3 => ?_) (fun h3 => ?_)
  · exact kd_rest G d I (w, t, b) hT K hK q hq h1 (fun _ => by show ¬ t < 8; omega)
  · refine Rn.aload_n dX1_readsLine_48 rfl rfl ?_
    refine Rn.getR dX1_readsLine_49 fd_X1_21_1 (by first | rfl | exact gC0 (by assumption) | exact gL0 (by assumption)) rfl ?_
    refine Rn.ldc dX1_readsLine_52 kc_X1_38 ?_
    refine Rn.callV (As := [_]) dX1_readsLine_54 mv_X1_26 (by first | rfl | exact gC0 (by assumption) | exact gL0 (by assumption)) rfl rfl rfl (Nat.le_of_ble_eq_true rfl) (ct_tkW G (d + 2) K (hK.tx hT) _ q (by decide)) (fun _ _ h => h) (fun v J h => ?_)
    rcases h with ⟨h4, rfl, rfl⟩ | ⟨h4, h5, rfl, rfl⟩
    · refine Rn.if_eq (tgt := 72) dX1_readsLine_57 (by decide) (fun _ => ?_) (fun h9 => absurd h9 (by decide))
      exact kd_rest G d I (w, t, b) hT K hK q hq h1 (fun z => absurd z h4)
    · have ho : cLine c e (w, t, b) q = cMap (cThing c e w (nx c e q)) (fun q1 => ((w, t + 1, upd b t (blB c e q1)), cFlag c e 78501 q1)) := by
        have h4 : wv c e q = 21243335 := h4
        unfold cLine
        rw [if_neg (by rw [h4]; decide), if_pos h4, if_pos (show ((w, t, b) : Cs).2.1 < 8 from h3)]
      rw [ho]
      refine Rn.if_eq (tgt := 72) dX1_readsLine_57 (by decide) (fun h9 => absurd h9 (by decide)) (fun _ => ?_)
      refine Rn.aload_n dX1_readsLine_60 rfl rfl ?_
      refine Rn.aload_n dX1_readsLine_61 rfl rfl ?_
      refine Rn.getR dX1_readsLine_62 fd_X1_9_1 (by first | rfl | exact gC0 (by assumption) | exact gL0 (by assumption)) rfl ?_
      refine Rn.getI dX1_readsLine_65 fd_X1_35_0 (by first | rfl | exact gC0 (by assumption) | exact gL0 (by assumption)) rfl ?_
      refine Rn.topI (nI t) (by rw [TQ5_ne (by decide)]; exact hK.2.1) ?_
      refine Rn.callV (As := [_]) dX1_readsLine_68 mv_X1_39 (by first | rfl | exact gC0 (by assumption) | exact gL0 (by assumption)) rfl rfl rfl (Nat.le_of_ble_eq_true rfl) (kd_thing G d I w t b h3 hT K hK (nx c e q) (nx_le h5)) (fun _ _ h => h) (fun v J h => ?_)
      rcases CDl.v h with rfl | rfl
      · exact Rn.zret dX1_readsLine_71 rfl rfl (h)
      · exact Rn.zret dX1_readsLine_71 rfl rfl (h)
theorem kd_line (I : Hi) (st : Cs) (hT : TX I c e) (K : Hi) (hK : KD I st K) (q : Nat) (hq : q ≤ e) : Ct G GAM mX1_readsLine (d + 4) 0 [.ref 37] (TQ5 K c e q) (Rv (CDl I c e (cLine c e st q))) := by
  obtain ⟨w, t, b⟩ := st
  have hw8 : w ≤ 8 := hK.2.2.2.2.2.1
  have e70 : (TQ5 K c e q) 7 0 = nI w := by rw [TQ5_ne (by decide)]; exact hK.1
  refine Ct.mk [some (.ref 37)] ?_
  refine Rn.aload_n dX1_readsLine_0 rfl rfl ?_
  refine Rn.getR dX1_readsLine_1 fd_X1_9_1 (by first | rfl | exact gC0 (by assumption) | exact gL0 (by assumption)) rfl ?_
  refine Rn.getI dX1_readsLine_4 fd_X1_15_0 (by first | rfl | exact gC0 (by assumption) | exact gL0 (by assumption)) rfl ?_
  refine Rn.topI (nI w) (by exact e70) ?_
  refine Rn.bipush (v := (nI 8)) dX1_readsLine_7 rfl ?_
  refine Rn.icmp_geN dX1_readsLine_9 36 (fun h3 => ?_) (fun h3 => ?_)
  · exact kd_c36 G d I (w, t, b) hT K hK q hq (fun _ => by show ¬ w < 8; omega)
  · refine Rn.aload_n dX1_readsLine_12 rfl rfl ?_
    refine Rn.getR dX1_readsLine_13 fd_X1_21_1 (by first | rfl | exact gC0 (by assumption) | exact gL0 (by assumption)) rfl ?_
    refine Rn.ldc dX1_readsLine_16 kc_X1_25 ?_
    refine Rn.callV (As := [_]) dX1_readsLine_18 mv_X1_26 (by first | rfl | exact gC0 (by assumption) | exact gL0 (by assumption)) rfl rfl rfl (Nat.le_of_ble_eq_true rfl) (ct_tkW G (d + 2) K (hK.tx hT) _ q (by decide)) (fun _ _ h => h) (fun v J h => ?_)
    rcases h with ⟨h4, rfl, rfl⟩ | ⟨h4, h5, rfl, rfl⟩
    · refine Rn.if_eq (tgt := 36) dX1_readsLine_21 (by decide) (fun _ => ?_) (fun h9 => absurd h9 (by decide))
      exact kd_c36 G d I (w, t, b) hT K hK q hq (fun z => absurd z h4)
    · have ho : cLine c e (w, t, b) q = cMap (cWoman c e (nx c e q)) (fun q1 => ((w + 1, t, b), q1)) := by
        have h4 : wv c e q = 24622126 := h4
        unfold cLine
        rw [if_pos h4, if_pos (show ((w, t, b) : Cs).1 < 8 from h3)]
      rw [ho]
      refine Rn.if_eq (tgt := 36) dX1_readsLine_21 (by decide) (fun h9 => absurd h9 (by decide)) (fun _ => ?_)
      refine Rn.aload_n dX1_readsLine_24 rfl rfl ?_
      refine Rn.aload_n dX1_readsLine_25 rfl rfl ?_
      refine Rn.getR dX1_readsLine_26 fd_X1_9_1 (by first | rfl | exact gC0 (by assumption) | exact gL0 (by assumption)) rfl ?_
      refine Rn.getI dX1_readsLine_29 fd_X1_15_0 (by first | rfl | exact gC0 (by assumption) | exact gL0 (by assumption)) rfl ?_
      refine Rn.topI (nI w) (by rw [TQ5_ne (by decide)]; exact hK.1) ?_
      refine Rn.callV (As := [_]) dX1_readsLine_32 mv_X1_32 (by first | rfl | exact gC0 (by assumption) | exact gL0 (by assumption)) rfl rfl rfl (Nat.le_of_ble_eq_true rfl) (kd_woman G d I w t b h3 hT K hK (nx c e q) (nx_le h5)) (fun _ _ h => h) (fun v J h => ?_)
      rcases CDl.v h with rfl | rfl
      · exact Rn.zret dX1_readsLine_35 rfl rfl (h)
      · exact Rn.zret dX1_readsLine_35 rfl rfl (h)
def CDt (I : Hi) (c : Nat → Nat) (e : Nat) (o : Nat ⊕ (Cs × Nat)) (v : Option Value) (J : Hi) : Prop := ∃ K q', J = TQ5 K c e q' ∧ q' ≤ e ∧ ((o = .inl q' ∧ v = some (.int (nI 0)) ∧ ∃ st, KD I st K) ∨ (∃ st n, o = .inr (st, n) ∧ v = some (.int (nI 1)) ∧ KD I st K))
theorem lp_tcoa (I : Hi) (hT : TX I c e) (h37 : I 37 0 = nI 14) (o : Nat ⊕ (Cs × Nat)) : ∀ (m n q : Nat) (st : Cs) (K : Hi), n + m = 14 → q ≤ e → KD I st K → cText c e m n st q = o → Rn G GAM mX4_readsText (kM G GAM (Rv (CDt I c e o))) (d + 5) 0 21 [some (.ref 37), some (.int (nI n))] [] (TQ5 K c e q) := by
  intro m
  induction m with
  | zero =>
    intro n q st K hn hq hK ho
    refine Rn.iload_n dX4_readsText_21 rfl rfl ?_
    refine Rn.aload_n dX4_readsText_22 rfl rfl ?_
    refine Rn.getI dX4_readsText_23 fd_X4_13_1 (by first | rfl | exact gC0 (by assumption) | exact gL0 (by assumption)) rfl ?_
    refine Rn.topI (nI 14) (by rw [TQ5_ne (by decide), hK.2.2.2.2.1 37 (by decide) (by decide) (by decide)]; exact h37) ?_
    refine Rn.icmp_geN dX4_readsText_26 70 (fun _ => ?_) (fun h9 => by exfalso; omega)
    refine Rn.iconst (v := (nI 0)) dX4_readsText_70 rfl ?_
    exact Rn.zret dX4_readsText_71 rfl rfl (⟨K, q, rfl, hq, Or.inl ⟨ho.symm, rfl, st, hK⟩⟩)
  | succ m ih =>
    intro n q st K hn hq hK ho
    have ho : (match cLine c e st q with
      | .inl x => .inl x
      | .inr (s1, q1) => if e ≤ q1 then .inr (s1, n + 1) else if fs c e q1 = nI 59 then cText c e m (n + 1) s1 (nx c e q1) else .inl q1) = o := ho
    refine Rn.iload_n dX4_readsText_21 rfl rfl ?_
    refine Rn.aload_n dX4_readsText_22 rfl rfl ?_
    refine Rn.getI dX4_readsText_23 fd_X4_13_1 (by first | rfl | exact gC0 (by assumption) | exact gL0 (by assumption)) rfl ?_
    refine Rn.topI (nI 14) (by rw [TQ5_ne (by decide), hK.2.2.2.2.1 37 (by decide) (by decide) (by decide)]; exact h37) ?_
    refine Rn.icmp_geN dX4_readsText_26 70 (fun h9 => by exfalso; omega) (fun _ => ?_)
    refine Rn.aload_n dX4_readsText_29 rfl rfl ?_
    refine Rn.callAx (As := []) dX4_readsText_30 ma_X4_26_1 rfl rfl rfl rfl (Nat.le_of_ble_eq_true rfl) (kd_line G d I st hT K hK q hq) (fun _ _ h => h) (fun v J h => ?_)
    obtain ⟨K2, q2, rfl, hq2, ⟨hg, rfl, st2, hK2⟩ | ⟨st2, hg, rfl, hK2⟩⟩ := h
    · rw [hg] at ho
      refine Rn.if_ne (tgt := 38) dX4_readsText_33 (by decide) (fun h9 => absurd h9 (by decide)) (fun _ => ?_)
      refine Rn.iconst (v := (nI 0)) dX4_readsText_36 rfl ?_
      exact Rn.zret dX4_readsText_37 rfl rfl (⟨K2, q2, rfl, hq2, Or.inl ⟨ho.symm, rfl, st2, hK2⟩⟩)
    · rw [hg] at ho
      have ho : (if e ≤ q2 then .inr (st2, n + 1) else if fs c e q2 = nI 59 then cText c e m (n + 1) st2 (nx c e q2) else .inl q2) = o := ho
      refine Rn.if_ne (tgt := 38) dX4_readsText_33 (by decide) (fun _ => ?_) (fun h9 => absurd h9 (by decide))
      refine Rn.aload_n dX4_readsText_38 rfl rfl ?_
      refine Rn.getR dX4_readsText_39 fd_X4_7_1 (by first | rfl | exact gC0 (by assumption) | exact gL0 (by assumption)) rfl ?_
      refine Rn.callV (As := []) dX4_readsText_42 mv_X4_22 (by first | rfl | exact gC0 (by assumption) | exact gL0 (by assumption)) rfl rfl rfl (Nat.le_of_ble_eq_true rfl) (ct_atEnd G (d + 4) K2 (hK2.tx hT) q2 hq2) (fun _ _ h => h) (fun v J h => ?_)
      obtain ⟨rfl, ⟨h1, rfl⟩ | ⟨h1, rfl⟩⟩ := h
      · rw [if_pos h1] at ho
        refine Rn.if_eq (tgt := 50) dX4_readsText_45 (by decide) (fun h9 => absurd h9 (by decide)) (fun _ => ?_)
        refine Rn.iconst (v := (nI 1)) dX4_readsText_48 rfl ?_
        exact Rn.zret dX4_readsText_49 rfl rfl (⟨K2, q2, rfl, hq2, Or.inr ⟨st2, n + 1, ho.symm, rfl, hK2⟩⟩)
      · rw [if_neg (by omega)] at ho
        refine Rn.if_eq (tgt := 50) dX4_readsText_45 (by decide) (fun _ => ?_) (fun h9 => absurd h9 (by decide))
        refine Rn.aload_n dX4_readsText_50 rfl rfl ?_
        refine Rn.getR dX4_readsText_51 fd_X4_7_1 (by first | rfl | exact gC0 (by assumption) | exact gL0 (by assumption)) rfl ?_
        refine Rn.bipush (v := (nI 59)) dX4_readsText_54 rfl ?_
        refine Rn.callV (As := [_]) dX4_readsText_56 mv_X4_29 (by first | rfl | exact gC0 (by assumption) | exact gL0 (by assumption)) rfl rfl rfl (Nat.le_of_ble_eq_true rfl) (ct_tkS G (d + 3) K2 (hK2.tx hT) 59 q2 (by decide)) (fun _ _ h => h) (fun v J h => ?_)
        rcases h with ⟨h2, rfl, rfl⟩ | ⟨h2, h3, rfl, rfl⟩
        · rw [if_neg h2] at ho
          refine Rn.if_ne (tgt := 64) dX4_readsText_59 (by decide) (fun h9 => absurd h9 (by decide)) (fun _ => ?_)
          refine Rn.iconst (v := (nI 0)) dX4_readsText_62 rfl ?_
          exact Rn.zret dX4_readsText_63 rfl rfl (⟨K2, q2, rfl, hq2, Or.inl ⟨ho.symm, rfl, st2, hK2⟩⟩)
        · rw [if_pos h2] at ho
          refine Rn.if_ne (tgt := 64) dX4_readsText_59 (by decide) (fun _ => ?_) (fun h9 => absurd h9 (by decide))
          refine Rn.iincN dX4_readsText_64 rfl (by decide) ?_
          refine Rn.goto 21 dX4_readsText_67 (by decide) ?_
          exact ih (n + 1) _ st2 K2 (by omega) (nx_le h3) hK2 ho
theorem kd_text (I : Hi) (hT : TX I c e) (h37 : I 37 0 = nI 14) (st : Cs) (h0 : KD I st I) : Ct G GAM mX4_readsText (d + 5) 0 [.ref 37] I (Rv (CDt I c e (cCoast c e st))) := by
  have hq : bl c e 0 ≤ e := bl_le (Nat.zero_le _)
  refine Ct.mk [some (.ref 37), none] ?_
  refine Rn.aload_n dX4_readsText_0 rfl rfl ?_
  refine Rn.getR dX4_readsText_1 fd_X4_7_1 (by first | rfl | exact gC0 (by assumption) | exact gL0 (by assumption)) rfl ?_
  refine Rn.callVp (As := []) dX4_readsText_4 mv_X4_17 (by first | rfl | exact gC0 (by assumption) | exact gL0 (by assumption)) rfl rfl rfl (Nat.le_of_ble_eq_true rfl) (ct_begin G (d + 3) I hT) ?_
  refine Rn.aload_n dX4_readsText_7 rfl rfl ?_
  refine Rn.getR dX4_readsText_8 fd_X4_7_1 (by first | rfl | exact gC0 (by assumption) | exact gL0 (by assumption)) rfl ?_
  refine Rn.callV (As := []) dX4_readsText_11 mv_X4_22 (by first | rfl | exact gC0 (by assumption) | exact gL0 (by assumption)) rfl rfl rfl (Nat.le_of_ble_eq_true rfl) (ct_atEnd G (d + 4) I hT (bl c e 0) hq) (fun _ _ h => h) (fun v J h => ?_)
  obtain ⟨rfl, ⟨h1, rfl⟩ | ⟨h1, rfl⟩⟩ := h
  · refine Rn.if_eq (tgt := 19) dX4_readsText_14 (by decide) (fun h9 => absurd h9 (by decide)) (fun _ => ?_)
    refine Rn.iconst (v := (nI 1)) dX4_readsText_17 rfl ?_
    exact Rn.zret dX4_readsText_18 rfl rfl (⟨I, bl c e 0, rfl, hq, Or.inr ⟨st, 0, if_pos h1, rfl, h0⟩⟩)
  · refine Rn.if_eq (tgt := 19) dX4_readsText_14 (by decide) (fun _ => ?_) (fun h9 => absurd h9 (by decide))
    refine Rn.iconst (v := (nI 0)) dX4_readsText_19 rfl ?_
    refine Rn.istore_n dX4_readsText_20 rfl (by decide) ?_
    exact lp_tcoa G d I hT h37 _ 14 0 _ st I rfl hq h0 (if_neg (by omega)).symm
theorem ct_cp3_7 (I : Hi) : Ct G GAM mX0_copyFrom d 0 [.ref 7, .ref 3] I (Rv (fun v J => v = none ∧ (∀ j, j < 9 → J 7 j = I 3 j) ∧ (∀ j, j < 72 → J 9 j = I 5 j) ∧ ∀ a, ¬ (7 ≤ a ∧ a ≤ 10) → J a = I a)) := by
  refine Ct.mk [some (.ref 7), some (.ref 3)] ?_
  refine Rn.aload_n dX0_copyFrom_0 rfl rfl ?_
  refine Rn.aload_n dX0_copyFrom_1 rfl rfl ?_
  refine Rn.getI dX0_copyFrom_2 fd_X0_31_0 (by first | rfl | exact gC0 (by assumption) | exact gL0 (by assumption)) rfl ?_
  refine Rn.putI dX0_copyFrom_5 fp_X0_31_0 (by first | rfl | exact gC0 (by assumption) | exact gL0 (by assumption)) rfl ?_
  refine Rn.aload_n dX0_copyFrom_8 rfl rfl ?_
  refine Rn.aload_n dX0_copyFrom_9 rfl rfl ?_
  refine Rn.getI dX0_copyFrom_10 fd_X0_34_0 (by first | rfl | exact gC0 (by assumption) | exact gL0 (by assumption)) rfl ?_
  refine Rn.putI dX0_copyFrom_13 fp_X0_34_0 (by first | rfl | exact gC0 (by assumption) | exact gL0 (by assumption)) rfl ?_
  refine Rn.aload_n dX0_copyFrom_16 rfl rfl ?_
  refine Rn.aload_n dX0_copyFrom_17 rfl rfl ?_
  refine Rn.getI dX0_copyFrom_18 fd_X0_37_0 (by first | rfl | exact gC0 (by assumption) | exact gL0 (by assumption)) rfl ?_
  refine Rn.putI dX0_copyFrom_21 fp_X0_37_0 (by first | rfl | exact gC0 (by assumption) | exact gL0 (by assumption)) rfl ?_
  refine Rn.aload_n dX0_copyFrom_24 rfl rfl ?_
  refine Rn.aload_n dX0_copyFrom_25 rfl rfl ?_
  refine Rn.getI dX0_copyFrom_26 fd_X0_40_0 (by first | rfl | exact gC0 (by assumption) | exact gL0 (by assumption)) rfl ?_
  refine Rn.putI dX0_copyFrom_29 fp_X0_40_0 (by first | rfl | exact gC0 (by assumption) | exact gL0 (by assumption)) rfl ?_
  refine Rn.aload_n dX0_copyFrom_32 rfl rfl ?_
  refine Rn.aload_n dX0_copyFrom_33 rfl rfl ?_
  refine Rn.getI dX0_copyFrom_34 fd_X0_9_0 (by first | rfl | exact gC0 (by assumption) | exact gL0 (by assumption)) rfl ?_
  refine Rn.putI dX0_copyFrom_37 fp_X0_9_0 (by first | rfl | exact gC0 (by assumption) | exact gL0 (by assumption)) rfl ?_
  refine Rn.aload_n dX0_copyFrom_40 rfl rfl ?_
  refine Rn.aload_n dX0_copyFrom_41 rfl rfl ?_
  refine Rn.getI dX0_copyFrom_42 fd_X0_15_0 (by first | rfl | exact gC0 (by assumption) | exact gL0 (by assumption)) rfl ?_
  refine Rn.putI dX0_copyFrom_45 fp_X0_15_0 (by first | rfl | exact gC0 (by assumption) | exact gL0 (by assumption)) rfl ?_
  refine Rn.aload_n dX0_copyFrom_48 rfl rfl ?_
  refine Rn.aload_n dX0_copyFrom_49 rfl rfl ?_
  refine Rn.getI dX0_copyFrom_50 fd_X0_18_0 (by first | rfl | exact gC0 (by assumption) | exact gL0 (by assumption)) rfl ?_
  refine Rn.putI dX0_copyFrom_53 fp_X0_18_0 (by first | rfl | exact gC0 (by assumption) | exact gL0 (by assumption)) rfl ?_
  refine Rn.aload_n dX0_copyFrom_56 rfl rfl ?_
  refine Rn.aload_n dX0_copyFrom_57 rfl rfl ?_
  refine Rn.getI dX0_copyFrom_58 fd_X0_43_0 (by first | rfl | exact gC0 (by assumption) | exact gL0 (by assumption)) rfl ?_
  refine Rn.putI dX0_copyFrom_61 fp_X0_43_0 (by first | rfl | exact gC0 (by assumption) | exact gL0 (by assumption)) rfl ?_
  refine Rn.aload_n dX0_copyFrom_64 rfl rfl ?_
  refine Rn.aload_n dX0_copyFrom_65 rfl rfl ?_
  refine Rn.getI dX0_copyFrom_66 fd_X0_46_0 (by first | rfl | exact gC0 (by assumption) | exact gL0 (by assumption)) rfl ?_
  refine Rn.putI dX0_copyFrom_69 fp_X0_46_0 (by first | rfl | exact gC0 (by assumption) | exact gL0 (by assumption)) rfl ?_
  refine Rn.aload_n dX0_copyFrom_72 rfl rfl ?_
  refine Rn.getR dX0_copyFrom_73 fd_X0_21_0 (by first | rfl | exact gC0 (by assumption) | exact gL0 (by assumption)) rfl ?_
  refine Rn.iconst (v := (nI 0)) dX0_copyFrom_76 rfl ?_
  refine Rn.aload_n dX0_copyFrom_77 rfl rfl ?_
  refine Rn.getR dX0_copyFrom_78 fd_X0_21_0 (by first | rfl | exact gC0 (by assumption) | exact gL0 (by assumption)) rfl ?_
  refine Rn.iconst (v := (nI 0)) dX0_copyFrom_81 rfl ?_
  refine Rn.bipush (v := (nI 56)) dX0_copyFrom_82 rfl ?_
  refine Rn.acopy dX0_copyFrom_84 ac_X0_49 (by first | rfl | exact gC1 (by assumption) | exact gC2 (by assumption) | exact gC3 (by assumption) | exact gL1 (by assumption) | exact gL2 (by assumption) | exact gL3 (by assumption) | exact gL4 (by assumption) | exact gL5 (by assumption) | exact gL6 (by assumption)) (by first | rfl | exact gC1 (by assumption) | exact gC2 (by assumption) | exact gC3 (by assumption) | exact gL1 (by assumption) | exact gL2 (by assumption) | exact gL3 (by assumption) | exact gL4 (by assumption) | exact gL5 (by assumption) | exact gL6 (by assumption)) (by decide) (by decide) (by decide) (Nat.le_of_ble_eq_true rfl) ?_
  refine Rn.aload_n dX0_copyFrom_87 rfl rfl ?_
  refine Rn.getR dX0_copyFrom_88 fd_X0_25_0 (by first | rfl | exact gC0 (by assumption) | exact gL0 (by assumption)) rfl ?_
  refine Rn.iconst (v := (nI 0)) dX0_copyFrom_91 rfl ?_
  refine Rn.aload_n dX0_copyFrom_92 rfl rfl ?_
  refine Rn.getR dX0_copyFrom_93 fd_X0_25_0 (by first | rfl | exact gC0 (by assumption) | exact gL0 (by assumption)) rfl ?_
  refine Rn.iconst (v := (nI 0)) dX0_copyFrom_96 rfl ?_
  refine Rn.bipush (v := (nI 72)) dX0_copyFrom_97 rfl ?_
  refine Rn.acopy dX0_copyFrom_99 ac_X0_49 (by first | rfl | exact gC1 (by assumption) | exact gC2 (by assumption) | exact gC3 (by assumption) | exact gL1 (by assumption) | exact gL2 (by assumption) | exact gL3 (by assumption) | exact gL4 (by assumption) | exact gL5 (by assumption) | exact gL6 (by assumption)) (by first | rfl | exact gC1 (by assumption) | exact gC2 (by assumption) | exact gC3 (by assumption) | exact gL1 (by assumption) | exact gL2 (by assumption) | exact gL3 (by assumption) | exact gL4 (by assumption) | exact gL5 (by assumption) | exact gL6 (by assumption)) (by decide) (by decide) (by decide) (Nat.le_of_ble_eq_true rfl) ?_
  refine Rn.aload_n dX0_copyFrom_102 rfl rfl ?_
  refine Rn.getR dX0_copyFrom_103 fd_X0_28_0 (by first | rfl | exact gC0 (by assumption) | exact gL0 (by assumption)) rfl ?_
  refine Rn.iconst (v := (nI 0)) dX0_copyFrom_106 rfl ?_
  refine Rn.aload_n dX0_copyFrom_107 rfl rfl ?_
  refine Rn.getR dX0_copyFrom_108 fd_X0_28_0 (by first | rfl | exact gC0 (by assumption) | exact gL0 (by assumption)) rfl ?_
  refine Rn.iconst (v := (nI 0)) dX0_copyFrom_111 rfl ?_
  refine Rn.sipush (v := (nI 240)) dX0_copyFrom_112 rfl ?_
  refine Rn.acopy dX0_copyFrom_115 ac_X0_49 (by first | rfl | exact gC1 (by assumption) | exact gC2 (by assumption) | exact gC3 (by assumption) | exact gL1 (by assumption) | exact gL2 (by assumption) | exact gL3 (by assumption) | exact gL4 (by assumption) | exact gL5 (by assumption) | exact gL6 (by assumption)) (by first | rfl | exact gC1 (by assumption) | exact gC2 (by assumption) | exact gC3 (by assumption) | exact gL1 (by assumption) | exact gL2 (by assumption) | exact gL3 (by assumption) | exact gL4 (by assumption) | exact gL5 (by assumption) | exact gL6 (by assumption)) (by decide) (by decide) (by decide) (Nat.le_of_ble_eq_true rfl) ?_
  have f9 : ∀ j, j < 9 → j = 0 ∨ j = 1 ∨ j = 2 ∨ j = 3 ∨ j = 4 ∨ j = 5 ∨ j = 6 ∨ j = 7 ∨ j = 8 := fun j hj => by omega
  exact Rn.vret dX0_copyFrom_118 rfl (⟨rfl, fun j hj => by rcases f9 j hj with rfl | rfl | rfl | rfl | rfl | rfl | rfl | rfl | rfl <;> rfl, fun j hj => by rw [zset_ne _ _ (by decide), zset_at, cpy_in hj]; first | done | rfl, fun a ha => by rw [zset_ne _ _ (by omega), zset_ne _ _ (by omega), zset_ne _ _ (by omega), zup_ne _ _ (by omega), zup_ne _ _ (by omega), zup_ne _ _ (by omega), zup_ne _ _ (by omega), zup_ne _ _ (by omega), zup_ne _ _ (by omega), zup_ne _ _ (by omega), zup_ne _ _ (by omega), zup_ne _ _ (by omega)]⟩)
theorem ct_cp7_3 (I : Hi) : Ct G GAM mX0_copyFrom d 0 [.ref 3, .ref 7] I (Rv (fun v J => v = none ∧ (∀ j, j < 9 → J 3 j = I 7 j) ∧ (∀ j, j < 72 → J 5 j = I 9 j) ∧ ∀ a, ¬ (3 ≤ a ∧ a ≤ 6) → J a = I a)) := by
  refine Ct.mk [some (.ref 3), some (.ref 7)] ?_
  refine Rn.aload_n dX0_copyFrom_0 rfl rfl ?_
  refine Rn.aload_n dX0_copyFrom_1 rfl rfl ?_
  refine Rn.getI dX0_copyFrom_2 fd_X0_31_0 (by first | rfl | exact gC0 (by assumption) | exact gL0 (by assumption)) rfl ?_
  refine Rn.putI dX0_copyFrom_5 fp_X0_31_0 (by first | rfl | exact gC0 (by assumption) | exact gL0 (by assumption)) rfl ?_
  refine Rn.aload_n dX0_copyFrom_8 rfl rfl ?_
  refine Rn.aload_n dX0_copyFrom_9 rfl rfl ?_
  refine Rn.getI dX0_copyFrom_10 fd_X0_34_0 (by first | rfl | exact gC0 (by assumption) | exact gL0 (by assumption)) rfl ?_
  refine Rn.putI dX0_copyFrom_13 fp_X0_34_0 (by first | rfl | exact gC0 (by assumption) | exact gL0 (by assumption)) rfl ?_
  refine Rn.aload_n dX0_copyFrom_16 rfl rfl ?_
  refine Rn.aload_n dX0_copyFrom_17 rfl rfl ?_
  refine Rn.getI dX0_copyFrom_18 fd_X0_37_0 (by first | rfl | exact gC0 (by assumption) | exact gL0 (by assumption)) rfl ?_
  refine Rn.putI dX0_copyFrom_21 fp_X0_37_0 (by first | rfl | exact gC0 (by assumption) | exact gL0 (by assumption)) rfl ?_
  refine Rn.aload_n dX0_copyFrom_24 rfl rfl ?_
  refine Rn.aload_n dX0_copyFrom_25 rfl rfl ?_
  refine Rn.getI dX0_copyFrom_26 fd_X0_40_0 (by first | rfl | exact gC0 (by assumption) | exact gL0 (by assumption)) rfl ?_
  refine Rn.putI dX0_copyFrom_29 fp_X0_40_0 (by first | rfl | exact gC0 (by assumption) | exact gL0 (by assumption)) rfl ?_
  refine Rn.aload_n dX0_copyFrom_32 rfl rfl ?_
  refine Rn.aload_n dX0_copyFrom_33 rfl rfl ?_
  refine Rn.getI dX0_copyFrom_34 fd_X0_9_0 (by first | rfl | exact gC0 (by assumption) | exact gL0 (by assumption)) rfl ?_
  refine Rn.putI dX0_copyFrom_37 fp_X0_9_0 (by first | rfl | exact gC0 (by assumption) | exact gL0 (by assumption)) rfl ?_
  refine Rn.aload_n dX0_copyFrom_40 rfl rfl ?_
  refine Rn.aload_n dX0_copyFrom_41 rfl rfl ?_
  refine Rn.getI dX0_copyFrom_42 fd_X0_15_0 (by first | rfl | exact gC0 (by assumption) | exact gL0 (by assumption)) rfl ?_
  refine Rn.putI dX0_copyFrom_45 fp_X0_15_0 (by first | rfl | exact gC0 (by assumption) | exact gL0 (by assumption)) rfl ?_
  refine Rn.aload_n dX0_copyFrom_48 rfl rfl ?_
  refine Rn.aload_n dX0_copyFrom_49 rfl rfl ?_
  refine Rn.getI dX0_copyFrom_50 fd_X0_18_0 (by first | rfl | exact gC0 (by assumption) | exact gL0 (by assumption)) rfl ?_
  refine Rn.putI dX0_copyFrom_53 fp_X0_18_0 (by first | rfl | exact gC0 (by assumption) | exact gL0 (by assumption)) rfl ?_
  refine Rn.aload_n dX0_copyFrom_56 rfl rfl ?_
  refine Rn.aload_n dX0_copyFrom_57 rfl rfl ?_
  refine Rn.getI dX0_copyFrom_58 fd_X0_43_0 (by first | rfl | exact gC0 (by assumption) | exact gL0 (by assumption)) rfl ?_
  refine Rn.putI dX0_copyFrom_61 fp_X0_43_0 (by first | rfl | exact gC0 (by assumption) | exact gL0 (by assumption)) rfl ?_
  refine Rn.aload_n dX0_copyFrom_64 rfl rfl ?_
  refine Rn.aload_n dX0_copyFrom_65 rfl rfl ?_
  refine Rn.getI dX0_copyFrom_66 fd_X0_46_0 (by first | rfl | exact gC0 (by assumption) | exact gL0 (by assumption)) rfl ?_
  refine Rn.putI dX0_copyFrom_69 fp_X0_46_0 (by first | rfl | exact gC0 (by assumption) | exact gL0 (by assumption)) rfl ?_
  refine Rn.aload_n dX0_copyFrom_72 rfl rfl ?_
  refine Rn.getR dX0_copyFrom_73 fd_X0_21_0 (by first | rfl | exact gC0 (by assumption) | exact gL0 (by assumption)) rfl ?_
  refine Rn.iconst (v := (nI 0)) dX0_copyFrom_76 rfl ?_
  refine Rn.aload_n dX0_copyFrom_77 rfl rfl ?_
  refine Rn.getR dX0_copyFrom_78 fd_X0_21_0 (by first | rfl | exact gC0 (by assumption) | exact gL0 (by assumption)) rfl ?_
  refine Rn.iconst (v := (nI 0)) dX0_copyFrom_81 rfl ?_
  refine Rn.bipush (v := (nI 56)) dX0_copyFrom_82 rfl ?_
  refine Rn.acopy dX0_copyFrom_84 ac_X0_49 (by first | rfl | exact gC1 (by assumption) | exact gC2 (by assumption) | exact gC3 (by assumption) | exact gL1 (by assumption) | exact gL2 (by assumption) | exact gL3 (by assumption) | exact gL4 (by assumption) | exact gL5 (by assumption) | exact gL6 (by assumption)) (by first | rfl | exact gC1 (by assumption) | exact gC2 (by assumption) | exact gC3 (by assumption) | exact gL1 (by assumption) | exact gL2 (by assumption) | exact gL3 (by assumption) | exact gL4 (by assumption) | exact gL5 (by assumption) | exact gL6 (by assumption)) (by decide) (by decide) (by decide) (Nat.le_of_ble_eq_true rfl) ?_
  refine Rn.aload_n dX0_copyFrom_87 rfl rfl ?_
  refine Rn.getR dX0_copyFrom_88 fd_X0_25_0 (by first | rfl | exact gC0 (by assumption) | exact gL0 (by assumption)) rfl ?_
  refine Rn.iconst (v := (nI 0)) dX0_copyFrom_91 rfl ?_
  refine Rn.aload_n dX0_copyFrom_92 rfl rfl ?_
  refine Rn.getR dX0_copyFrom_93 fd_X0_25_0 (by first | rfl | exact gC0 (by assumption) | exact gL0 (by assumption)) rfl ?_
  refine Rn.iconst (v := (nI 0)) dX0_copyFrom_96 rfl ?_
  refine Rn.bipush (v := (nI 72)) dX0_copyFrom_97 rfl ?_
  refine Rn.acopy dX0_copyFrom_99 ac_X0_49 (by first | rfl | exact gC1 (by assumption) | exact gC2 (by assumption) | exact gC3 (by assumption) | exact gL1 (by assumption) | exact gL2 (by assumption) | exact gL3 (by assumption) | exact gL4 (by assumption) | exact gL5 (by assumption) | exact gL6 (by assumption)) (by first | rfl | exact gC1 (by assumption) | exact gC2 (by assumption) | exact gC3 (by assumption) | exact gL1 (by assumption) | exact gL2 (by assumption) | exact gL3 (by assumption) | exact gL4 (by assumption) | exact gL5 (by assumption) | exact gL6 (by assumption)) (by decide) (by decide) (by decide) (Nat.le_of_ble_eq_true rfl) ?_
  refine Rn.aload_n dX0_copyFrom_102 rfl rfl ?_
  refine Rn.getR dX0_copyFrom_103 fd_X0_28_0 (by first | rfl | exact gC0 (by assumption) | exact gL0 (by assumption)) rfl ?_
  refine Rn.iconst (v := (nI 0)) dX0_copyFrom_106 rfl ?_
  refine Rn.aload_n dX0_copyFrom_107 rfl rfl ?_
  refine Rn.getR dX0_copyFrom_108 fd_X0_28_0 (by first | rfl | exact gC0 (by assumption) | exact gL0 (by assumption)) rfl ?_
  refine Rn.iconst (v := (nI 0)) dX0_copyFrom_111 rfl ?_
  refine Rn.sipush (v := (nI 240)) dX0_copyFrom_112 rfl ?_
  refine Rn.acopy dX0_copyFrom_115 ac_X0_49 (by first | rfl | exact gC1 (by assumption) | exact gC2 (by assumption) | exact gC3 (by assumption) | exact gL1 (by assumption) | exact gL2 (by assumption) | exact gL3 (by assumption) | exact gL4 (by assumption) | exact gL5 (by assumption) | exact gL6 (by assumption)) (by first | rfl | exact gC1 (by assumption) | exact gC2 (by assumption) | exact gC3 (by assumption) | exact gL1 (by assumption) | exact gL2 (by assumption) | exact gL3 (by assumption) | exact gL4 (by assumption) | exact gL5 (by assumption) | exact gL6 (by assumption)) (by decide) (by decide) (by decide) (Nat.le_of_ble_eq_true rfl) ?_
  have f9 : ∀ j, j < 9 → j = 0 ∨ j = 1 ∨ j = 2 ∨ j = 3 ∨ j = 4 ∨ j = 5 ∨ j = 6 ∨ j = 7 ∨ j = 8 := fun j hj => by omega
  exact Rn.vret dX0_copyFrom_118 rfl (⟨rfl, fun j hj => by rcases f9 j hj with rfl | rfl | rfl | rfl | rfl | rfl | rfl | rfl | rfl <;> rfl, fun j hj => by rw [zset_ne _ _ (by decide), zset_at, cpy_in hj]; first | done | rfl, fun a ha => by rw [zset_ne _ _ (by omega), zset_ne _ _ (by omega), zset_ne _ _ (by omega), zup_ne _ _ (by omega), zup_ne _ _ (by omega), zup_ne _ _ (by omega), zup_ne _ _ (by omega), zup_ne _ _ (by omega), zup_ne _ _ (by omega), zup_ne _ _ (by omega), zup_ne _ _ (by omega), zup_ne _ _ (by omega)]⟩)
end Kcl
