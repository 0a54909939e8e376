theorem dX3_readsAtom_168 : decode cX3_readsAtom 168 = .ok (.iload_n 3, 1) := by decide +kernel
theorem dX3_readsAtom_169 : decode cX3_readsAtom 169 = .ok (.iconst (-1), 1) := by decide +kernel
theorem dX3_readsAtom_170 : decode cX3_readsAtom 170 = .ok (.if_icmp .eq 10, 3) := by decide +kernel
theorem dX3_readsAtom_173 : decode cX3_readsAtom 173 = .ok (.aload_n 0, 1) := by decide +kernel
theorem dX3_readsAtom_174 : decode cX3_readsAtom 174 = .ok (.invokevirtual 66, 3) := by decide +kernel
theorem dX3_readsAtom_177 : decode cX3_readsAtom 177 = .ok (.ifCond .ne 5, 3) := by decide +kernel
theorem dX3_readsAtom_180 : decode cX3_readsAtom 180 = .ok (.iconst 0, 1) := by decide +kernel
theorem dX3_readsAtom_181 : decode cX3_readsAtom 181 = .ok (.ireturn, 1) := by decide +kernel
theorem dX3_readsAtom_182 : decode cX3_readsAtom 182 = .ok (.aload_n 0, 1) := by decide +kernel
theorem dX3_readsAtom_183 : decode cX3_readsAtom 183 = .ok (.getfield 9, 3) := by decide +kernel
theorem dX3_readsAtom_186 : decode cX3_readsAtom 186 = .ok (.iload_n 3, 1) := by decide +kernel
theorem dX3_readsAtom_187 : decode cX3_readsAtom 187 = .ok (.invokevirtual 44, 3) := by decide +kernel
theorem dX3_readsAtom_190 : decode cX3_readsAtom 190 = .ok (.iconst 1, 1) := by decide +kernel
theorem dX3_readsAtom_191 : decode cX3_readsAtom 191 = .ok (.ireturn, 1) := by decide +kernel
theorem dX3_readsAtom_88 : decode cX3_readsAtom 88 = .ok (.aload_n 0, 1) := by decide +kernel
theorem dX3_readsAtom_89 : decode cX3_readsAtom 89 = .ok (.getfield 15, 3) := by decide +kernel
theorem dX3_readsAtom_92 : decode cX3_readsAtom 92 = .ok (.getfield 55, 3) := by decide +kernel
theorem dX3_readsAtom_95 : decode cX3_readsAtom 95 = .ok (.invokestatic 59, 3) := by decide +kernel
theorem dX3_readsAtom_98 : decode cX3_readsAtom 98 = .ok (.istore_n 2, 1) := by decide +kernel
theorem dX3_readsAtom_99 : decode cX3_readsAtom 99 = .ok (.iload_n 2, 1) := by decide +kernel
theorem dX3_readsAtom_100 : decode cX3_readsAtom 100 = .ok (.iconst (-1), 1) := by decide +kernel
theorem dX3_readsAtom_101 : decode cX3_readsAtom 101 = .ok (.if_icmp .eq 22, 3) := by decide +kernel
theorem dX3_readsAtom_123 : decode cX3_readsAtom 123 = .ok (.aload_n 0, 1) := by decide +kernel
theorem dX3_readsAtom_124 : decode cX3_readsAtom 124 = .ok (.invokevirtual 66, 3) := by decide +kernel
theorem dX3_readsAtom_127 : decode cX3_readsAtom 127 = .ok (.ifCond .ne 5, 3) := by decide +kernel
theorem dX3_readsAtom_130 : decode cX3_readsAtom 130 = .ok (.iconst 0, 1) := by decide +kernel
theorem dX3_readsAtom_131 : decode cX3_readsAtom 131 = .ok (.ireturn, 1) := by decide +kernel
theorem dX3_readsAtom_132 : decode cX3_readsAtom 132 = .ok (.aload_n 0, 1) := by decide +kernel
theorem dX3_readsAtom_133 : decode cX3_readsAtom 133 = .ok (.getfield 15, 3) := by decide +kernel
theorem dX3_readsAtom_136 : decode cX3_readsAtom 136 = .ok (.bipush 60, 2) := by decide +kernel
theorem dX3_readsAtom_138 : decode cX3_readsAtom 138 = .ok (.invokevirtual 51, 3) := by decide +kernel
theorem dX3_readsAtom_141 : decode cX3_readsAtom 141 = .ok (.ifCond .eq 8, 3) := by decide +kernel
theorem dX3_readsAtom_149 : decode cX3_readsAtom 149 = .ok (.aload_n 0, 1) := by decide +kernel
theorem dX3_readsAtom_150 : decode cX3_readsAtom 150 = .ok (.getfield 15, 3) := by decide +kernel
theorem dX3_readsAtom_153 : decode cX3_readsAtom 153 = .ok (.bipush 62, 2) := by decide +kernel
theorem dX3_readsAtom_155 : decode cX3_readsAtom 155 = .ok (.invokevirtual 51, 3) := by decide +kernel
theorem dX3_readsAtom_158 : decode cX3_readsAtom 158 = .ok (.ifCond .eq 8, 3) := by decide +kernel
theorem dX3_readsAtom_166 : decode cX3_readsAtom 166 = .ok (.iconst (-1), 1) := by decide +kernel
theorem dX3_readsAtom_167 : decode cX3_readsAtom 167 = .ok (.istore_n 3, 1) := by decide +kernel
theorem dX3_readsAtom_161 : decode cX3_readsAtom 161 = .ok (.bipush (-16), 2) := by decide +kernel
theorem dX3_readsAtom_163 : decode cX3_readsAtom 163 = .ok (.goto 4, 3) := by decide +kernel
theorem dX3_readsAtom_144 : decode cX3_readsAtom 144 = .ok (.bipush (-15), 2) := by decide +kernel
theorem dX3_readsAtom_146 : decode cX3_readsAtom 146 = .ok (.goto 21, 3) := by decide +kernel
theorem dX3_readsAtom_104 : decode cX3_readsAtom 104 = .ok (.aload_n 0, 1) := by decide +kernel
theorem dX3_readsAtom_105 : decode cX3_readsAtom 105 = .ok (.getfield 9, 3) := by decide +kernel
theorem dX3_readsAtom_108 : decode cX3_readsAtom 108 = .ok (.iconst (-1), 1) := by decide +kernel
theorem dX3_readsAtom_109 : decode cX3_readsAtom 109 = .ok (.iload_n 2, 1) := by decide +kernel
theorem dX3_readsAtom_110 : decode cX3_readsAtom 110 = .ok (.isub, 1) := by decide +kernel
theorem dX3_readsAtom_111 : decode cX3_readsAtom 111 = .ok (.invokevirtual 44, 3) := by decide +kernel
theorem dX3_readsAtom_114 : decode cX3_readsAtom 114 = .ok (.aload_n 0, 1) := by decide +kernel
theorem dX3_readsAtom_115 : decode cX3_readsAtom 115 = .ok (.getfield 15, 3) := by decide +kernel
theorem dX3_readsAtom_118 : decode cX3_readsAtom 118 = .ok (.invokevirtual 62, 3) := by decide +kernel
theorem dX3_readsAtom_121 : decode cX3_readsAtom 121 = .ok (.iconst 1, 1) := by decide +kernel
theorem dX3_readsAtom_122 : decode cX3_readsAtom 122 = .ok (.ireturn, 1) := by decide +kernel
theorem dX3_readsAtom_0 : decode cX3_readsAtom 0 = .ok (.iload_n 1, 1) := by decide +kernel
theorem dX3_readsAtom_1 : decode cX3_readsAtom 1 = .ok (.bipush 6, 2) := by decide +kernel
theorem dX3_readsAtom_3 : decode cX3_readsAtom 3 = .ok (.if_icmp .ge 39, 3) := by decide +kernel
theorem dX3_readsAtom_6 : decode cX3_readsAtom 6 = .ok (.aload_n 0, 1) := by decide +kernel
theorem dX3_readsAtom_7 : decode cX3_readsAtom 7 = .ok (.getfield 15, 3) := by decide +kernel
theorem dX3_readsAtom_10 : decode cX3_readsAtom 10 = .ok (.sipush 14836, 3) := by decide +kernel
theorem dX3_readsAtom_13 : decode cX3_readsAtom 13 = .ok (.invokevirtual 20, 3) := by decide +kernel
theorem dX3_readsAtom_16 : decode cX3_readsAtom 16 = .ok (.ifCond .eq 26, 3) := by decide +kernel
theorem dX3_readsAtom_19 : decode cX3_readsAtom 19 = .ok (.aload_n 0, 1) := by decide +kernel
theorem dX3_readsAtom_20 : decode cX3_readsAtom 20 = .ok (.iload_n 1, 1) := by decide +kernel
theorem dX3_readsAtom_21 : decode cX3_readsAtom 21 = .ok (.iconst 1, 1) := by decide +kernel
theorem dX3_readsAtom_22 : decode cX3_readsAtom 22 = .ok (.iadd, 1) := by decide +kernel
theorem dX3_readsAtom_23 : decode cX3_readsAtom 23 = .ok (.invokevirtual 48, 3) := by decide +kernel
theorem dX3_readsAtom_26 : decode cX3_readsAtom 26 = .ok (.ifCond .ne 5, 3) := by decide +kernel
theorem dX3_readsAtom_29 : decode cX3_readsAtom 29 = .ok (.iconst 0, 1) := by decide +kernel
theorem dX3_readsAtom_30 : decode cX3_readsAtom 30 = .ok (.ireturn, 1) := by decide +kernel
theorem dX3_readsAtom_31 : decode cX3_readsAtom 31 = .ok (.aload_n 0, 1) := by decide +kernel
theorem dX3_readsAtom_32 : decode cX3_readsAtom 32 = .ok (.getfield 9, 3) := by decide +kernel
theorem dX3_readsAtom_35 : decode cX3_readsAtom 35 = .ok (.bipush (-11), 2) := by decide +kernel
theorem dX3_readsAtom_37 : decode cX3_readsAtom 37 = .ok (.invokevirtual 44, 3) := by decide +kernel
theorem dX3_readsAtom_40 : decode cX3_readsAtom 40 = .ok (.iconst 1, 1) := by decide +kernel
theorem dX3_readsAtom_41 : decode cX3_readsAtom 41 = .ok (.ireturn, 1) := by decide +kernel
theorem dX3_readsAtom_42 : decode cX3_readsAtom 42 = .ok (.iload_n 1, 1) := by decide +kernel
theorem dX3_readsAtom_43 : decode cX3_readsAtom 43 = .ok (.bipush 6, 2) := by decide +kernel
theorem dX3_readsAtom_45 : decode cX3_readsAtom 45 = .ok (.if_icmp .ge 43, 3) := by decide +kernel
theorem dX3_readsAtom_48 : decode cX3_readsAtom 48 = .ok (.aload_n 0, 1) := by decide +kernel
theorem dX3_readsAtom_49 : decode cX3_readsAtom 49 = .ok (.getfield 15, 3) := by decide +kernel
theorem dX3_readsAtom_52 : decode cX3_readsAtom 52 = .ok (.bipush 40, 2) := by decide +kernel
theorem dX3_readsAtom_54 : decode cX3_readsAtom 54 = .ok (.invokevirtual 51, 3) := by decide +kernel
theorem dX3_readsAtom_57 : decode cX3_readsAtom 57 = .ok (.ifCond .eq 31, 3) := by decide +kernel
theorem dX3_readsAtom_60 : decode cX3_readsAtom 60 = .ok (.aload_n 0, 1) := by decide +kernel
theorem dX3_readsAtom_61 : decode cX3_readsAtom 61 = .ok (.iload_n 1, 1) := by decide +kernel
theorem dX3_readsAtom_62 : decode cX3_readsAtom 62 = .ok (.iconst 1, 1) := by decide +kernel
theorem dX3_readsAtom_63 : decode cX3_readsAtom 63 = .ok (.iadd, 1) := by decide +kernel
theorem dX3_readsAtom_64 : decode cX3_readsAtom 64 = .ok (.invokevirtual 38, 3) := by decide +kernel
theorem dX3_readsAtom_67 : decode cX3_readsAtom 67 = .ok (.ifCond .eq 19, 3) := by decide +kernel
theorem dX3_readsAtom_86 : decode cX3_readsAtom 86 = .ok (.iconst 0, 1) := by decide +kernel
theorem dX3_readsAtom_87 : decode cX3_readsAtom 87 = .ok (.ireturn, 1) := by decide +kernel
theorem dX3_readsAtom_70 : decode cX3_readsAtom 70 = .ok (.aload_n 0, 1) := by decide +kernel
theorem dX3_readsAtom_71 : decode cX3_readsAtom 71 = .ok (.getfield 15, 3) := by decide +kernel
theorem dX3_readsAtom_74 : decode cX3_readsAtom 74 = .ok (.bipush 41, 2) := by decide +kernel
theorem dX3_readsAtom_76 : decode cX3_readsAtom 76 = .ok (.invokevirtual 51, 3) := by decide +kernel
theorem dX3_readsAtom_79 : decode cX3_readsAtom 79 = .ok (.ifCond .eq 7, 3) := by decide +kernel
theorem dX3_readsAtom_82 : decode cX3_readsAtom 82 = .ok (.iconst 1, 1) := by decide +kernel
theorem dX3_readsAtom_83 : decode cX3_readsAtom 83 = .ok (.goto 4, 3) := by decide +kernel
/-! the class's reader of the law: atoms within atoms, lines, the text -/
section Cl7
variable (G : Gx) (d : Nat) {c : Nat → Nat} {e : Nat}
theorem cl_rel2 (I : Hi) (hT : TX I c e) (o : Go) (x1 x2 : Option Value) (s : Int32) (hs : s ≠ -1) (K : Hi) (q : Nat) (hK : KP I K) (hq : q ≤ e) (ho : gSum c e q = o) : Rn G GAM mX3_readsAtom (kM G GAM (Rv (CO5 I c e o))) (d + 2) 0 168 [some (.ref 38), x1, x2, some (.int s)] [] (TQ5 K c e q) := by
  refine Rn.iload_n dX3_readsAtom_168 rfl rfl ?_
  refine Rn.iconst (v := (-1)) dX3_readsAtom_169 rfl ?_
  refine Rn.icmp_eq (tgt := 180) dX3_readsAtom_170 (by decide) (fun h9 => by exfalso; exact hs h9) (fun _ => ?_)
  refine Rn.aload_n dX3_readsAtom_173 rfl rfl ?_
  refine Rn.callV (As := []) dX3_readsAtom_174 mv_X3_66 (by first | rfl | exact gC0 (by assumption) | exact gL0 (by assumption)) rfl rfl rfl (Nat.le_of_ble_eq_true rfl) (cl_sum G d K (hK.tx hT) q hq) (fun _ _ h => h) (fun v J h => ?_)
  obtain ⟨K2, q2, hK2, rfl, hq2, ⟨hn, rfl⟩ | ⟨hn, rfl⟩⟩ := h
  · refine Rn.if_ne (tgt := 182) dX3_readsAtom_177 (by decide) (fun h9 => absurd h9 (by decide)) (fun _ => ?_)
    refine Rn.iconst (v := (nI 0)) dX3_readsAtom_180 rfl ?_
    exact Rn.zret dX3_readsAtom_181 rfl rfl (⟨K2, q2, hK.tr hK2, rfl, hq2, Or.inl ⟨ho.symm.trans hn, rfl⟩⟩)
  · refine Rn.if_ne (tgt := 182) dX3_readsAtom_177 (by decide) (fun _ => ?_) (fun h9 => absurd h9 (by decide))
    refine Rn.aload_n dX3_readsAtom_182 rfl rfl ?_
    refine Rn.getR dX3_readsAtom_183 fd_X3_9_3 (by first | rfl | exact gC0 (by assumption) | exact gL0 (by assumption)) rfl ?_
    refine Rn.iload_n dX3_readsAtom_186 rfl rfl ?_
    refine Rn.callV (As := [_]) dX3_readsAtom_187 mv_X3_44 (by first | rfl | exact gC0 (by assumption) | exact gL0 (by assumption)) rfl rfl rfl (Nat.le_of_ble_eq_true rfl) (ct_addS G (d + 1) K2 _ q2) (fun _ _ h => h) (fun v J h => ?_)
    obtain ⟨rfl, K3, hK3, rfl⟩ := h
    refine Rn.iconst (v := (nI 1)) dX3_readsAtom_190 rfl ?_
    exact Rn.zret dX3_readsAtom_191 rfl rfl (⟨K3, q2, hK.tr (hK2.tr hK3), rfl, hq2, Or.inr ⟨ho.symm.trans hn, rfl⟩⟩)
theorem cl_end (I : Hi) (hT : TX I c e) (x1 x2 x3 : Option Value) (q : Nat) (hq : q ≤ e) (o : Go) (ho : gEnd c e q = o) : Rn G GAM mX3_readsAtom (kM G GAM (Rv (CO5 I c e o))) (d + 2) 0 88 [some (.ref 38), x1, x2, x3] [] (TQ5 I c e q) := by
  refine Rn.aload_n dX3_readsAtom_88 rfl rfl ?_
  refine Rn.getR dX3_readsAtom_89 fd_X3_15_3 (by first | rfl | exact gC0 (by assumption) | exact gL0 (by assumption)) rfl ?_
  refine Rn.getI dX3_readsAtom_92 fd_X3_55_7 (by first | rfl | exact gC0 (by assumption) | exact gL0 (by assumption)) rfl ?_
  refine Rn.topI (wv c e q) (by rfl) ?_
  refine Rn.callS (As := [_]) dX3_readsAtom_95 ms_X3_59 rfl rfl (Nat.le_of_ble_eq_true rfl) (ct_traitOf G (d + 1) _ _) (fun _ _ h => h) (fun v J h => ?_)
  obtain ⟨rfl, ⟨hp, rfl⟩ | ⟨hp, k, hk, rfl⟩⟩ := h
  · have ho2 : gB (gSum c e q) (fun q1 => if fs c e q1 = nI 60 ∨ fs c e q1 = nI 62 then gSum c e (nx c e q1) else .inl q1) = o := (if_neg hp).symm.trans ho
    refine Rn.istore_n dX3_readsAtom_98 rfl (by decide) ?_
    refine Rn.iload_n dX3_readsAtom_99 rfl rfl ?_
    refine Rn.iconst (v := (-1)) dX3_readsAtom_100 rfl ?_
    refine Rn.icmp_eq (tgt := 123) dX3_readsAtom_101 (by decide) (fun _ => ?_) (fun h9 => absurd h9 (by decide))
    refine Rn.aload_n dX3_readsAtom_123 rfl rfl ?_
    refine Rn.callV (As := []) dX3_readsAtom_124 mv_X3_66 (by first | rfl | exact gC0 (by assumption) | exact gL0 (by assumption)) rfl rfl rfl (Nat.le_of_ble_eq_true rfl) (cl_sum G d I hT q hq) (fun _ _ h => h) (fun v J h => ?_)
    obtain ⟨K2, q2, hK2, rfl, hq2, ⟨hn, rfl⟩ | ⟨hn, rfl⟩⟩ := h
    · rw [gB_l hn] at ho2
      refine Rn.if_ne (tgt := 132) dX3_readsAtom_127 (by decide) (fun h9 => absurd h9 (by decide)) (fun _ => ?_)
      refine Rn.iconst (v := (nI 0)) dX3_readsAtom_130 rfl ?_
      exact Rn.zret dX3_readsAtom_131 rfl rfl (⟨K2, q2, hK2, rfl, hq2, Or.inl ⟨ho2.symm, rfl⟩⟩)
    · rw [gB_r hn] at ho2
      refine Rn.if_ne (tgt := 132) dX3_readsAtom_127 (by decide) (fun _ => ?_) (fun h9 => absurd h9 (by decide))
      refine Rn.aload_n dX3_readsAtom_132 rfl rfl ?_
      refine Rn.getR dX3_readsAtom_133 fd_X3_15_3 (by first | rfl | exact gC0 (by assumption) | exact gL0 (by assumption)) rfl ?_
      refine Rn.bipush (v := (nI 60)) dX3_readsAtom_136 rfl ?_
      refine Rn.callV (As := [_]) dX3_readsAtom_138 mv_X3_51 (by first | rfl | exact gC0 (by assumption) | exact gL0 (by assumption)) rfl rfl rfl (Nat.le_of_ble_eq_true rfl) (ct_tkS G d K2 (hK2.tx hT) 60 q2 (by decide)) (fun _ _ h => h) (fun v J h => ?_)
      rcases h with ⟨h1, rfl, rfl⟩ | ⟨h1, h2, rfl, rfl⟩
      · refine Rn.if_eq (tgt := 149) dX3_readsAtom_141 (by decide) (fun _ => ?_) (fun h9 => absurd h9 (by decide))
        refine Rn.aload_n dX3_readsAtom_149 rfl rfl ?_
        refine Rn.getR dX3_readsAtom_150 fd_X3_15_3 (by first | rfl | exact gC0 (by assumption) | exact gL0 (by assumption)) rfl ?_
        refine Rn.bipush (v := (nI 62)) dX3_readsAtom_153 rfl ?_
        refine Rn.callV (As := [_]) dX3_readsAtom_155 mv_X3_51 (by first | rfl | exact gC0 (by assumption) | exact gL0 (by assumption)) rfl rfl rfl (Nat.le_of_ble_eq_true rfl) (ct_tkS G d K2 (hK2.tx hT) 62 q2 (by decide)) (fun _ _ h => h) (fun v J h => ?_)
        rcases h with ⟨h3, rfl, rfl⟩ | ⟨h3, h4, rfl, rfl⟩
        · rw [if_neg (fun z => z.elim h1 h3)] at ho2
          refine Rn.if_eq (tgt := 166) dX3_readsAtom_158 (by decide) (fun _ => ?_) (fun h9 => absurd h9 (by decide))
          refine Rn.iconst (v := (-1)) dX3_readsAtom_166 rfl ?_
          refine Rn.istore_n dX3_readsAtom_167 rfl (by decide) ?_
          refine Rn.iload_n dX3_readsAtom_168 rfl rfl ?_
          refine Rn.iconst (v := (-1)) dX3_readsAtom_169 rfl ?_
          refine Rn.icmp_eq (tgt := 180) dX3_readsAtom_170 (by decide) (fun _ => ?_) (fun h9 => absurd h9 (by decide))
          refine Rn.iconst (v := (nI 0)) dX3_readsAtom_180 rfl ?_
          exact Rn.zret dX3_readsAtom_181 rfl rfl (⟨K2, q2, hK2, rfl, hq2, Or.inl ⟨ho2.symm, rfl⟩⟩)
        · rw [if_pos (Or.inr h3)] at ho2
          refine Rn.if_eq (tgt := 166) dX3_readsAtom_158 (by decide) (fun h9 => absurd h9 (by decide)) (fun _ => ?_)
          refine Rn.bipush (v := (-16)) dX3_readsAtom_161 rfl ?_
          refine Rn.goto 167 dX3_readsAtom_163 (by decide) ?_
          refine Rn.istore_n dX3_readsAtom_167 rfl (by decide) ?_
          exact cl_rel2 G d I hT o _ _ (-16) (by decide) K2 _ hK2 (nx_le h4) ho2
      · rw [if_pos (Or.inl h1)] at ho2
        refine Rn.if_eq (tgt := 149) dX3_readsAtom_141 (by decide) (fun h9 => absurd h9 (by decide)) (fun _ => ?_)
        refine Rn.bipush (v := (-15)) dX3_readsAtom_144 rfl ?_
        refine Rn.goto 167 dX3_readsAtom_146 (by decide) ?_
        refine Rn.istore_n dX3_readsAtom_167 rfl (by decide) ?_
        exact cl_rel2 G d I hT o _ _ (-15) (by decide) K2 _ hK2 (nx_le h2) ho2
  · have ho2 : Sum.inr (nx c e q) = o := (if_pos hp).symm.trans ho
    have hw : wv c e q ≠ 0 := fun z => by rw [z] at hp; exact absurd hp (by decide)
    refine Rn.istore_n dX3_readsAtom_98 rfl (by decide) ?_
    refine Rn.iload_n dX3_readsAtom_99 rfl rfl ?_
    refine Rn.iconst (v := (-1)) dX3_readsAtom_100 rfl ?_
    refine Rn.icmp_eq (tgt := 123) dX3_readsAtom_101 (by decide) (fun h9 => by exfalso; exact nk_ne hk h9) (fun _ => ?_)
    refine Rn.aload_n dX3_readsAtom_104 rfl rfl ?_
    refine Rn.getR dX3_readsAtom_105 fd_X3_9_3 (by first | rfl | exact gC0 (by assumption) | exact gL0 (by assumption)) rfl ?_
    refine Rn.iconst (v := (-1)) dX3_readsAtom_108 rfl ?_
    refine Rn.iload_n dX3_readsAtom_109 rfl rfl ?_
    refine Rn.isub dX3_readsAtom_110 ?_
    refine Rn.callV (As := [_]) dX3_readsAtom_111 mv_X3_44 (by first | rfl | exact gC0 (by assumption) | exact gL0 (by assumption)) rfl rfl rfl (Nat.le_of_ble_eq_true rfl) (ct_addS G (d + 1) I _ q) (fun _ _ h => h) (fun v J h => ?_)
    obtain ⟨rfl, K2, hK2, rfl⟩ := h
    refine Rn.aload_n dX3_readsAtom_114 rfl rfl ?_
    refine Rn.getR dX3_readsAtom_115 fd_X3_15_3 (by first | rfl | exact gC0 (by assumption) | exact gL0 (by assumption)) rfl ?_
    refine Rn.callVp (As := []) dX3_readsAtom_118 mv_X3_62 (by first | rfl | exact gC0 (by assumption) | exact gL0 (by assumption)) rfl rfl rfl (Nat.le_of_ble_eq_true rfl) (ct_st G (d + 1) K2 (hK2.tx hT) q (wv_lt hw)) ?_
    refine Rn.iconst (v := (nI 1)) dX3_readsAtom_121 rfl ?_
    exact Rn.zret dX3_readsAtom_122 rfl rfl (⟨K2, nx c e q, hK2, rfl, nx_le (wv_lt hw), Or.inr ⟨ho2.symm, rfl⟩⟩)
theorem cl_atom (n dep : Nat) (hd : dep + n = 6) (hA : ∀ n', n = n' + 1 → RdL G c e mX3_readsAtom (d + 1) (dep + 1) (gAtom c e n')) (hY : ∀ n', n = n' + 1 → RdL G c e mX3_readsAny (d + 1) (dep + 1) (gAny c e (gAtom c e n'))) : RdL G c e mX3_readsAtom (d + 2) dep (gAtom c e n) := by
  intro I q hT hq
  refine Ct.mk [some (.ref 38), some (.int (nI dep)), none, none] ?_
  by_cases h6 : dep < 6
  · obtain ⟨n', rfl⟩ : ∃ n', n = n' + 1 := ⟨n - 1, by omega⟩
    have ho : gAtom c e (n' + 1) q = if wv c e q = 14836 then gAtom c e n' (nx c e q) else if fs c e q = nI 40 then gB (gAny c e (gAtom c e n') (nx c e q)) (fun q1 => if fs c e q1 = nI 41 then .inr (nx c e q1) else .inl q1) else gEnd c e q := rfl
    rw [ho]
    refine Rn.iload_n dX3_readsAtom_0 rfl rfl ?_
    refine Rn.bipush (v := (nI 6)) dX3_readsAtom_1 rfl ?_
    refine Rn.icmp_geN dX3_readsAtom_3 42 (fun h9 => by exfalso; omega) (fun _ => ?_)
    refine Rn.aload_n dX3_readsAtom_6 rfl rfl ?_
    refine Rn.getR dX3_readsAtom_7 fd_X3_15_3 (by first | rfl | exact gC0 (by assumption) | exact gL0 (by assumption)) rfl ?_
    refine Rn.sipush (v := (nI 14836)) dX3_readsAtom_10 rfl ?_
    refine Rn.callV (As := [_]) dX3_readsAtom_13 mv_X3_20 (by first | rfl | exact gC0 (by assumption) | exact gL0 (by assumption)) rfl rfl rfl (Nat.le_of_ble_eq_true rfl) (ct_tkW G d I hT _ q (by decide)) (fun _ _ h => h) (fun v J h => ?_)
    rcases h with ⟨h1, rfl, rfl⟩ | ⟨h1, h2, rfl, rfl⟩
    rotate_left
    · have h1 : wv c e q = 14836 := h1
      rw [if_pos h1]
      refine Rn.if_eq (tgt := 42) dX3_readsAtom_16 (by decide) (fun h9 => absurd h9 (by decide)) (fun _ => ?_)
      refine Rn.aload_n dX3_readsAtom_19 rfl rfl ?_
      refine Rn.iload_n dX3_readsAtom_20 rfl rfl ?_
      refine Rn.iconst (v := (nI 1)) dX3_readsAtom_21 rfl ?_
      refine Rn.iadd dX3_readsAtom_22 ?_
      refine Rn.topI (nI (dep + 1)) (by exact nI_1 dep) ?_
      refine Rn.callV (As := [_]) dX3_readsAtom_23 mv_X3_48 (by first | rfl | exact gC0 (by assumption) | exact gL0 (by assumption)) rfl rfl rfl (Nat.le_of_ble_eq_true rfl) (hA n' rfl I (nx c e q) hT (nx_le h2)) (fun _ _ h => h) (fun v J h => ?_)
      obtain ⟨K2, q2, hK2, rfl, hq2, ⟨hn, rfl⟩ | ⟨hn, rfl⟩⟩ := h
      · refine Rn.if_ne (tgt := 31) dX3_readsAtom_26 (by decide) (fun h9 => absurd h9 (by decide)) (fun _ => ?_)
        refine Rn.iconst (v := (nI 0)) dX3_readsAtom_29 rfl ?_
        exact Rn.zret dX3_readsAtom_30 rfl rfl (⟨K2, q2, hK2, rfl, hq2, Or.inl ⟨hn, rfl⟩⟩)
      · refine Rn.if_ne (tgt := 31) dX3_readsAtom_26 (by decide) (fun _ => ?_) (fun h9 => absurd h9 (by decide))
        refine Rn.aload_n dX3_readsAtom_31 rfl rfl ?_
        refine Rn.getR dX3_readsAtom_32 fd_X3_9_3 (by first | rfl | exact gC0 (by assumption) | exact gL0 (by assumption)) rfl ?_
        refine Rn.bipush (v := (-11)) dX3_readsAtom_35 rfl ?_
        refine Rn.callV (As := [_]) dX3_readsAtom_37 mv_X3_44 (by first | rfl | exact gC0 (by assumption) | exact gL0 (by assumption)) rfl rfl rfl (Nat.le_of_ble_eq_true rfl) (ct_addS G (d + 1) K2 _ q2) (fun _ _ h => h) (fun v J h => ?_)
        obtain ⟨rfl, K3, hK3, rfl⟩ := h
        refine Rn.iconst (v := (nI 1)) dX3_readsAtom_40 rfl ?_
        exact Rn.zret dX3_readsAtom_41 rfl rfl (⟨K3, q2, hK2.tr hK3, rfl, hq2, Or.inr ⟨hn, rfl⟩⟩)
    have h1 : wv c e q ≠ 14836 := h1
    rw [if_neg h1]
    refine Rn.if_eq (tgt := 42) dX3_readsAtom_16 (by decide) (fun _ => ?_) (fun h9 => absurd h9 (by decide))
    refine Rn.iload_n dX3_readsAtom_42 rfl rfl ?_
    refine Rn.bipush (v := (nI 6)) dX3_readsAtom_43 rfl ?_
    refine Rn.icmp_geN dX3_readsAtom_45 88 (fun h9 => by exfalso; omega) (fun _ => ?_)
    refine Rn.aload_n dX3_readsAtom_48 rfl rfl ?_
    refine Rn.getR dX3_readsAtom_49 fd_X3_15_3 (by first | rfl | exact gC0 (by assumption) | exact gL0 (by assumption)) rfl ?_
    refine Rn.bipush (v := (nI 40)) dX3_readsAtom_52 rfl ?_
    refine Rn.callV (As := [_]) dX3_readsAtom_54 mv_X3_51 (by first | rfl | exact gC0 (by assumption) | exact gL0 (by assumption)) rfl rfl rfl (Nat.le_of_ble_eq_true rfl) (ct_tkS G d I hT 40 q (by decide)) (fun _ _ h => h) (fun v J h => ?_)
    rcases h with ⟨h3, rfl, rfl⟩ | ⟨h3, h4, rfl, rfl⟩
    · rw [if_neg h3]
      refine Rn.if_eq (tgt := 88) dX3_readsAtom_57 (by decide) (fun _ => ?_) (fun h9 => absurd h9 (by decide))
      exact cl_end G d I hT _ _ _ q hq _ rfl
    · rw [if_pos h3]
      refine Rn.if_eq (tgt := 88) dX3_readsAtom_57 (by decide) (fun h9 => absurd h9 (by decide)) (fun _ => ?_)
      refine Rn.aload_n dX3_readsAtom_60 rfl rfl ?_
      refine Rn.iload_n dX3_readsAtom_61 rfl rfl ?_
      refine Rn.iconst (v := (nI 1)) dX3_readsAtom_62 rfl ?_
      refine Rn.iadd dX3_readsAtom_63 ?_
      refine Rn.topI (nI (dep + 1)) (by exact nI_1 dep) ?_
      refine Rn.callV (As := [_]) dX3_readsAtom_64 mv_X3_38 (by first | rfl | exact gC0 (by assumption) | exact gL0 (by assumption)) rfl rfl rfl (Nat.le_of_ble_eq_true rfl) (hY n' rfl I (nx c e q) hT (nx_le h4)) (fun _ _ h => h) (fun v J h => ?_)
      obtain ⟨K2, q2, hK2, rfl, hq2, ⟨hn, rfl⟩ | ⟨hn, rfl⟩⟩ := h
      · refine Rn.if_eq (tgt := 86) dX3_readsAtom_67 (by decide) (fun _ => ?_) (fun h9 => absurd h9 (by decide))
        refine Rn.iconst (v := (nI 0)) dX3_readsAtom_86 rfl ?_
        exact Rn.zret dX3_readsAtom_87 rfl rfl (⟨K2, q2, hK2, rfl, hq2, Or.inl ⟨gB_l hn, rfl⟩⟩)
      · rw [gB_r hn]
        refine Rn.if_eq (tgt := 86) dX3_readsAtom_67 (by decide) (fun h9 => absurd h9 (by decide)) (fun _ => ?_)
        refine Rn.aload_n dX3_readsAtom_70 rfl rfl ?_
        refine Rn.getR dX3_readsAtom_71 fd_X3_15_3 (by first | rfl | exact gC0 (by assumption) | exact gL0 (by assumption)) rfl ?_
        refine Rn.bipush (v := (nI 41)) dX3_readsAtom_74 rfl ?_
        refine Rn.callV (As := [_]) dX3_readsAtom_76 mv_X3_51 (by first | rfl | exact gC0 (by assumption) | exact gL0 (by assumption)) rfl rfl rfl (Nat.le_of_ble_eq_true rfl) (ct_tkS G d K2 (hK2.tx hT) 41 q2 (by decide)) (fun _ _ h => h) (fun v J h => ?_)
        rcases h with ⟨h5, rfl, rfl⟩ | ⟨h5, h7, rfl, rfl⟩
        · rw [if_neg h5]
          refine Rn.if_eq (tgt := 86) dX3_readsAtom_79 (by decide) (fun _ => ?_) (fun h9 => absurd h9 (by decide))
          refine Rn.iconst (v := (nI 0)) dX3_readsAtom_86 rfl ?_
          exact Rn.zret dX3_readsAtom_87 rfl rfl (⟨K2, q2, hK2, rfl, hq2, Or.inl ⟨rfl, rfl⟩⟩)
        · rw [if_pos h5]
          refine Rn.if_eq (tgt := 86) dX3_readsAtom_79 (by decide) (fun h9 => absurd h9 (by decide)) (fun _ => ?_)
          refine Rn.iconst (v := (nI 1)) dX3_readsAtom_82 rfl ?_
          refine Rn.goto 87 dX3_readsAtom_83 (by decide) ?_
          exact Rn.zret dX3_readsAtom_87 rfl rfl (⟨K2, nx c e q2, hK2, rfl, nx_le h7, Or.inr ⟨rfl, rfl⟩⟩)
  · obtain rfl : n = 0 := by omega
    obtain rfl : dep = 6 := by omega
    refine Rn.iload_n dX3_readsAtom_0 rfl rfl ?_
    refine Rn.bipush (v := (nI 6)) dX3_readsAtom_1 rfl ?_
    refine Rn.icmp_ge (tgt := 42) dX3_readsAtom_3 (by decide) (fun _ => ?_) (fun h9 => absurd h9 (by decide))
    refine Rn.iload_n dX3_readsAtom_42 rfl rfl ?_
    refine Rn.bipush (v := (nI 6)) dX3_readsAtom_43 rfl ?_
    refine Rn.icmp_ge (tgt := 88) dX3_readsAtom_45 (by decide) (fun _ => ?_) (fun h9 => absurd h9 (by decide))
    exact cl_end G d I hT _ _ _ q hq _ rfl
theorem cl_all6 (c : Nat → Nat) (e : Nat) : ∀ (n dep : Nat), dep + n = 6 → (∀ D, RdL G c e mX3_readsAtom (D + 3 * n + 2) dep (gAtom c e n)) ∧ (∀ D, RdL G c e mX3_readsAny (D + 3 * n + 4) dep (gAny c e (gAtom c e n))) := by
  have up : ∀ (n dep : Nat), (∀ D, RdL G c e mX3_readsAtom (D + 3 * n + 2) dep (gAtom c e n)) → ∀ D, RdL G c e mX3_readsAny (D + 3 * n + 4) dep (gAny c e (gAtom c e n)) := by
    intro n dep h D
    have h1 := cl_All G (D + 3 * n) dep (gAtom c e n) (h D)
    exact cl_Any G (D + 3 * n + 1) dep (gAll c e (gAtom c e n)) h1
  intro n
  induction n with
  | zero =>
    intro dep hd
    have h1 : ∀ D, RdL G c e mX3_readsAtom (D + 3 * 0 + 2) dep (gAtom c e 0) := fun D => cl_atom G D 0 dep hd (fun n' h => absurd h (by omega)) (fun n' h => absurd h (by omega))
    exact ⟨h1, up 0 dep h1⟩
  | succ n ih =>
    intro dep hd
    obtain ⟨i1, i2⟩ := ih (dep + 1) (by omega)
    have h1 : ∀ D, RdL G c e mX3_readsAtom (D + 3 * (n + 1) + 2) dep (gAtom c e (n + 1)) := fun D => by
      have h3 := i1 (D + 2)
      have h4 := i2 D
      rw [show D + 2 + 3 * n + 2 = D + 3 * n + 3 + 1 by omega] at h3
      rw [show D + 3 * n + 4 = D + 3 * n + 3 + 1 by omega] at h4
      have h5 := cl_atom G (D + 3 * n + 3) (n + 1) dep hd (fun n' hn => by have e9 : n = n' := (by omega); subst e9; exact h3) (fun n' hn => by have e9 : n = n' := (by omega); subst e9; exact h4)
      rw [show D + 3 * (n + 1) + 2 = D + 3 * n + 3 + 2 by omega]
      exact h5
    exact ⟨h1, up (n + 1) dep h1⟩
theorem cl_any0 (c : Nat → Nat) (e : Nat) : RdL G c e mX3_readsAny (d + 22) 0 (gAny c e (gAtom c e 6)) := (cl_all6 G c e 6 0 rfl).2 d
end Cl7
