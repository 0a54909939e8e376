theorem dX10_readWoman_62 : decode cX10_readWoman 62 = .ok (.istore_n 3, 1) := by decide +kernel
theorem dX10_readWoman_63 : decode cX10_readWoman 63 = .ok (.iload_n 3, 1) := by decide +kernel
theorem dX10_readWoman_64 : decode cX10_readWoman 64 = .ok (.ifCond .ge 5, 3) := by decide +kernel
theorem dX10_readWoman_69 : decode cX10_readWoman 69 = .ok (.aload_n 0, 1) := by decide +kernel
theorem dX10_readWoman_70 : decode cX10_readWoman 70 = .ok (.getfield 13, 3) := by decide +kernel
theorem dX10_readWoman_73 : decode cX10_readWoman 73 = .ok (.iload_n 1, 1) := by decide +kernel
theorem dX10_readWoman_74 : decode cX10_readWoman 74 = .ok (.iconst 4, 1) := by decide +kernel
theorem dX10_readWoman_75 : decode cX10_readWoman 75 = .ok (.invokestatic 61, 3) := by decide +kernel
theorem dX10_readWoman_78 : decode cX10_readWoman 78 = .ok (.iload_n 2, 1) := by decide +kernel
theorem dX10_readWoman_79 : decode cX10_readWoman 79 = .ok (.iastore, 1) := by decide +kernel
theorem dX10_readWoman_80 : decode cX10_readWoman 80 = .ok (.aload_n 0, 1) := by decide +kernel
theorem dX10_readWoman_81 : decode cX10_readWoman 81 = .ok (.getfield 13, 3) := by decide +kernel
theorem dX10_readWoman_84 : decode cX10_readWoman 84 = .ok (.iload_n 1, 1) := by decide +kernel
theorem dX10_readWoman_85 : decode cX10_readWoman 85 = .ok (.iconst 5, 1) := by decide +kernel
theorem dX10_readWoman_86 : decode cX10_readWoman 86 = .ok (.invokestatic 61, 3) := by decide +kernel
theorem dX10_readWoman_89 : decode cX10_readWoman 89 = .ok (.iload_n 3, 1) := by decide +kernel
theorem dX10_readWoman_90 : decode cX10_readWoman 90 = .ok (.iastore, 1) := by decide +kernel
theorem dX10_readWoman_91 : decode cX10_readWoman 91 = .ok (.aload_n 0, 1) := by decide +kernel
theorem dX10_readWoman_92 : decode cX10_readWoman 92 = .ok (.getfield 13, 3) := by decide +kernel
theorem dX10_readWoman_95 : decode cX10_readWoman 95 = .ok (.iload_n 1, 1) := by decide +kernel
theorem dX10_readWoman_96 : decode cX10_readWoman 96 = .ok (.bipush 6, 2) := by decide +kernel
theorem dX10_readWoman_98 : decode cX10_readWoman 98 = .ok (.invokestatic 61, 3) := by decide +kernel
theorem dX10_readWoman_101 : decode cX10_readWoman 101 = .ok (.aload_n 0, 1) := by decide +kernel
theorem dX10_readWoman_102 : decode cX10_readWoman 102 = .ok (.ldc 142, 2) := by decide +kernel
theorem dX10_readWoman_104 : decode cX10_readWoman 104 = .ok (.invokevirtual 139, 3) := by decide +kernel
theorem dX10_readWoman_115 : decode cX10_readWoman 115 = .ok (.iastore, 1) := by decide +kernel
theorem dX10_readWoman_116 : decode cX10_readWoman 116 = .ok (.aload_n 0, 1) := by decide +kernel
theorem dX10_readWoman_117 : decode cX10_readWoman 117 = .ok (.getfield 13, 3) := by decide +kernel
theorem dX10_readWoman_120 : decode cX10_readWoman 120 = .ok (.iconst 0, 1) := by decide +kernel
theorem dX10_readWoman_121 : decode cX10_readWoman 121 = .ok (.dup2, 1) := by decide +kernel
theorem dX10_readWoman_122 : decode cX10_readWoman 122 = .ok (.iaload, 1) := by decide +kernel
theorem dX10_readWoman_123 : decode cX10_readWoman 123 = .ok (.iconst 1, 1) := by decide +kernel
theorem dX10_readWoman_124 : decode cX10_readWoman 124 = .ok (.iadd, 1) := by decide +kernel
theorem dX10_readWoman_125 : decode cX10_readWoman 125 = .ok (.iastore, 1) := by decide +kernel
theorem dX10_readWoman_126 : decode cX10_readWoman 126 = .ok (.iconst 1, 1) := by decide +kernel
theorem dX10_readWoman_127 : decode cX10_readWoman 127 = .ok (.ireturn, 1) := by decide +kernel
theorem dX10_readWoman_107 : decode cX10_readWoman 107 = .ok (.ifCond .eq 7, 3) := by decide +kernel
theorem dX10_readWoman_114 : decode cX10_readWoman 114 = .ok (.iconst 0, 1) := by decide +kernel
theorem dX10_readWoman_110 : decode cX10_readWoman 110 = .ok (.iconst 1, 1) := by decide +kernel
theorem dX10_readWoman_111 : decode cX10_readWoman 111 = .ok (.goto 4, 3) := by decide +kernel
theorem dX10_readWoman_0 : decode cX10_readWoman 0 = .ok (.aload_n 0, 1) := by decide +kernel
theorem dX10_readWoman_1 : decode cX10_readWoman 1 = .ok (.invokevirtual 74, 3) := by decide +kernel
theorem dX10_readWoman_4 : decode cX10_readWoman 4 = .ok (.istore_n 1, 1) := by decide +kernel
theorem dX10_readWoman_5 : decode cX10_readWoman 5 = .ok (.iload_n 1, 1) := by decide +kernel
theorem dX10_readWoman_6 : decode cX10_readWoman 6 = .ok (.bipush 8, 2) := by decide +kernel
theorem dX10_readWoman_8 : decode cX10_readWoman 8 = .ok (.if_icmp .eq 15, 3) := by decide +kernel
theorem dX10_readWoman_23 : decode cX10_readWoman 23 = .ok (.iconst 0, 1) := by decide +kernel
theorem dX10_readWoman_24 : decode cX10_readWoman 24 = .ok (.ireturn, 1) := by decide +kernel
theorem dX10_readWoman_11 : decode cX10_readWoman 11 = .ok (.aload_n 0, 1) := by decide +kernel
theorem dX10_readWoman_12 : decode cX10_readWoman 12 = .ok (.iload_n 1, 1) := by decide +kernel
theorem dX10_readWoman_13 : decode cX10_readWoman 13 = .ok (.iconst 0, 1) := by decide +kernel
theorem dX10_readWoman_14 : decode cX10_readWoman 14 = .ok (.invokestatic 61, 3) := by decide +kernel
theorem dX10_readWoman_17 : decode cX10_readWoman 17 = .ok (.invokevirtual 127, 3) := by decide +kernel
theorem dX10_readWoman_20 : decode cX10_readWoman 20 = .ok (.ifCond .ne 5, 3) := by decide +kernel
theorem dX10_readWoman_25 : decode cX10_readWoman 25 = .ok (.aload_n 0, 1) := by decide +kernel
theorem dX10_readWoman_26 : decode cX10_readWoman 26 = .ok (.ldc 131, 2) := by decide +kernel
theorem sm_X10_131 : (RX10, 131, "purse", 1001) ∈ zSR := by decide +kernel
theorem dX10_readWoman_28 : decode cX10_readWoman 28 = .ok (.iconst 0, 1) := by decide +kernel
theorem dX10_readWoman_29 : decode cX10_readWoman 29 = .ok (.sipush 999, 3) := by decide +kernel
theorem dX10_readWoman_32 : decode cX10_readWoman 32 = .ok (.invokevirtual 133, 3) := by decide +kernel
theorem dX10_readWoman_35 : decode cX10_readWoman 35 = .ok (.istore_n 2, 1) := by decide +kernel
theorem dX10_readWoman_36 : decode cX10_readWoman 36 = .ok (.iload_n 2, 1) := by decide +kernel
theorem dX10_readWoman_37 : decode cX10_readWoman 37 = .ok (.ifCond .ge 5, 3) := by decide +kernel
theorem dX10_readWoman_40 : decode cX10_readWoman 40 = .ok (.iconst 0, 1) := by decide +kernel
theorem dX10_readWoman_41 : decode cX10_readWoman 41 = .ok (.ireturn, 1) := by decide +kernel
theorem dX10_readWoman_42 : decode cX10_readWoman 42 = .ok (.aload_n 0, 1) := by decide +kernel
theorem dX10_readWoman_43 : decode cX10_readWoman 43 = .ok (.ldc 137, 2) := by decide +kernel
theorem dX10_readWoman_45 : decode cX10_readWoman 45 = .ok (.invokevirtual 139, 3) := by decide +kernel
theorem dX10_readWoman_48 : decode cX10_readWoman 48 = .ok (.ifCond .eq 13, 3) := by decide +kernel
theorem dX10_readWoman_61 : decode cX10_readWoman 61 = .ok (.iconst 0, 1) := by decide +kernel
theorem dX10_readWoman_51 : decode cX10_readWoman 51 = .ok (.aload_n 0, 1) := by decide +kernel
theorem dX10_readWoman_52 : decode cX10_readWoman 52 = .ok (.iconst 0, 1) := by decide +kernel
theorem dX10_readWoman_53 : decode cX10_readWoman 53 = .ok (.bipush 9, 2) := by decide +kernel
theorem dX10_readWoman_55 : decode cX10_readWoman 55 = .ok (.invokevirtual 121, 3) := by decide +kernel
theorem dX10_readWoman_58 : decode cX10_readWoman 58 = .ok (.goto 4, 3) := by decide +kernel
theorem dX10_readWoman_67 : decode cX10_readWoman 67 = .ok (.iconst 0, 1) := by decide +kernel
theorem dX10_readWoman_68 : decode cX10_readWoman 68 = .ok (.ireturn, 1) := by decide +kernel
/-! the reference's reader of the coast: women, things, lines, the text -/
theorem WV.woman {V0 V : Nat → Int32} {w t : Nat} {b : Nat → Int32} (h : WV V0 w t b V) (hw : w < 8) : WV V0 (w + 1) t b (upd V 0 (nI (w + 1))) := by
  obtain ⟨a1, a2, a3, a4, a5, a6, a7, a8, a9⟩ := h
  refine ⟨fun i hi => ?_, upd_at _ _ _, by rw [upd_ne _ _ (by omega)]; exact a3, by rw [upd_ne _ _ (by omega)]; exact a4, by rw [upd_ne _ _ (by omega)]; exact a5, fun i hi => by rw [upd_ne _ _ (by omega)]; exact a6 i hi, fun k hk => by rw [upd_ne _ _ (by omega)]; exact a7 k hk, by omega, a9⟩
  by_cases z : i = 0
  · subst z; rw [upd_at]; exact iv_nI (n := 8) (by omega) (by decide)
  · rw [upd_ne _ _ z]; exact a1 i hi
theorem WV.thing {V0 V : Nat → Int32} {w t : Nat} {b : Nat → Int32} {x : Int32} (h : WV V0 w t b V) (ht : t < 8) (hx : V (73 + 9 * t) = x) : WV V0 w (t + 1) (upd b t x) (upd V 1 (nI (t + 1))) := by
  obtain ⟨a1, a2, a3, a4, a5, a6, a7, a8, a9⟩ := h
  refine ⟨fun i hi => ?_, by rw [upd_ne _ _ (by omega)]; exact a2, upd_at _ _ _, by rw [upd_ne _ _ (by omega)]; exact a4, by rw [upd_ne _ _ (by omega)]; exact a5, fun i hi => by rw [upd_ne _ _ (by omega)]; exact a6 i hi, fun k hk => ?_, a8, by omega⟩
  · by_cases z : i = 1
    · subst z; rw [upd_at]; exact iv_nI (n := 8) (by omega) (by decide)
    · rw [upd_ne _ _ z]; exact a1 i hi
  · rw [upd_ne _ _ (by omega)]
    by_cases z : k = t
    · subst z; rw [upd_at]; exact hx
    · rw [upd_ne _ _ z]; exact a7 k (by omega)
/-- what a reader of a line leaves -/
def RLc (c : Nat → Nat) (e : Nat) (V0 : Nat → Int32) (I : Hi) (q s : Nat) (o : Nat ⊕ (Cs × Nat)) (v : Option Value) (J : Hi) : Prop := ∃ (p' b' : Nat) (V' : Nat → Int32), J = PS I p' b' q s V' ∧ p' ≤ e ∧ b' ≤ e ∧ ((v = some (.int (nI 0)) ∧ o = .inl b' ∧ ∃ w t b, WV V0 w t b V') ∨ (∃ st : Cs, v = some (.int (nI 1)) ∧ o = .inr (st, bl c e p') ∧ WV V0 st.1 st.2.1 st.2.2 V'))
section Rcw
variable (G : Gx) (d : Nat) {c : Nat → Nat} {e : Nat}
theorem rk_w2 (I : Hi) (V0 : Nat → Int32) (w t : Nat) (b : Nat → Int32) (q s : Nat) (hw : w < 8) (hT : TY I c e) (x y : Int32) (x3 : Option Value) (hy : nI 0 ≤ y) (p b0 : Nat) (V : Nat → Int32) (hp : p ≤ e) (hV : WV V0 w t b V) (q0 : Nat) (h0 : bl c e p = q0) (o : Nat ⊕ (Cs × Nat)) (ho : Sum.inr ((w + 1, t, b), cFlag c e 24416759 q0) = o) : Rn G GAM mX10_readWoman (kM G GAM (Rv (RLc c e V0 I q s o))) (d + 6) 0 62 [some (.ref 94), some (.int (nI w)), some (.int x), x3] [.int y] (PS I p b0 q s V) := by
  have he := hT.1
  have hV1 := (hV.up (j := 9 + 7 * w + 4) (x := x) (by omega) (by omega) (fun k hk => by omega) (by rw [wbx_F (by omega)]; exact inIv_F _)).up (j := 9 + 7 * w + 5) (x := y) (by omega) (by omega) (fun k hk => by omega) (by rw [wbx_F (by omega)]; exact inIv_F _)
  refine Rn.istore_n dX10_readWoman_62 rfl (by decide) ?_
  refine Rn.iload_n dX10_readWoman_63 rfl rfl ?_
  refine Rn.if_ge (tgt := 69) dX10_readWoman_64 (by decide) (fun _ => ?_) (fun h9 => by exfalso; exact h9 hy)
  refine Rn.aload_n dX10_readWoman_69 rfl rfl ?_
  refine Rn.getR dX10_readWoman_70 fd_X10_13_9 (by first | rfl | exact gC0 (by assumption) | exact gL0 (by assumption)) rfl ?_
  refine Rn.iload_n dX10_readWoman_73 rfl rfl ?_
  refine Rn.iconst (v := (nI 4)) dX10_readWoman_74 rfl ?_
  refine Rn.callSp (As := [_, _]) dX10_readWoman_75 ms_X10_61 rfl rfl (Nat.le_of_ble_eq_true rfl) (ct_womanAt G _ _ _ _) ?_
  refine Rn.iload_n dX10_readWoman_78 rfl rfl ?_
  refine Rn.iastN dX10_readWoman_79 (by first | rfl | exact gC1 (by assumption) | exact gC2 (by assumption) | exact gC3 (by assumption) | exact gL1 (by assumption) | exact gL2 (by assumption) | exact gL3 (by assumption) | exact gL4 (by assumption) | exact gL5 (by assumption) | exact gL6 (by assumption)) ?_
  refine Rn.hpp _ (PS_95 _ _ _ _ _ _ _ _) ?_
  refine Rn.aload_n dX10_readWoman_80 rfl rfl ?_
  refine Rn.getR dX10_readWoman_81 fd_X10_13_9 (by first | rfl | exact gC0 (by assumption) | exact gL0 (by assumption)) rfl ?_
  refine Rn.iload_n dX10_readWoman_84 rfl rfl ?_
  refine Rn.iconst (v := (nI 5)) dX10_readWoman_85 rfl ?_
  refine Rn.callSp (As := [_, _]) dX10_readWoman_86 ms_X10_61 rfl rfl (Nat.le_of_ble_eq_true rfl) (ct_womanAt G _ _ _ _) ?_
  refine Rn.iload_n dX10_readWoman_89 rfl rfl ?_
  refine Rn.iastN dX10_readWoman_90 (by first | rfl | exact gC1 (by assumption) | exact gC2 (by assumption) | exact gC3 (by assumption) | exact gL1 (by assumption) | exact gL2 (by assumption) | exact gL3 (by assumption) | exact gL4 (by assumption) | exact gL5 (by assumption) | exact gL6 (by assumption)) ?_
  refine Rn.hpp _ (PS_95 _ _ _ _ _ _ _ _) ?_
  refine Rn.aload_n dX10_readWoman_91 rfl rfl ?_
  refine Rn.getR dX10_readWoman_92 fd_X10_13_9 (by first | rfl | exact gC0 (by assumption) | exact gL0 (by assumption)) rfl ?_
  refine Rn.iload_n dX10_readWoman_95 rfl rfl ?_
  refine Rn.bipush (v := (nI 6)) dX10_readWoman_96 rfl ?_
  refine Rn.callSp (As := [_, _]) dX10_readWoman_98 ms_X10_61 rfl rfl (Nat.le_of_ble_eq_true rfl) (ct_womanAt G _ _ _ _) ?_
  refine Rn.aload_n dX10_readWoman_101 rfl rfl ?_
  refine Rn.ldcS dX10_readWoman_102 sm_X10_142 ?_
  refine Rn.callV (As := [_]) dX10_readWoman_104 mv_X10_139 (by first | rfl | exact gC0 (by assumption) | exact gL0 (by assumption)) rfl rfl rfl (Nat.le_of_ble_eq_true rfl) (cx_passes G d (PS I p b0 q s _) 3 p (by decide) hT.ps hp (by rfl)) (fun _ _ h => h) (fun v J h => ?_)
  have fin : ∀ (z : Int32) (p2 b2 : Nat), p2 ≤ e → b2 ≤ e → bl c e p2 = cFlag c e 24416759 q0 → Rn G GAM mX10_readWoman (kM G GAM (Rv (RLc c e V0 I q s o))) (d + 6) 0 115 [some (.ref 94), some (.int (nI w)), some (.int x), some (.int y)] [.int z, .int (nI (9 + 7 * w + 6)), .ref 95] (PS I p2 b2 q s (upd (upd V (9 + 7 * w + 4) x) (9 + 7 * w + 5) y)) := by
    intro z p2 b2 g1 g2 g3
    have hV2 := hV1.up (j := 9 + 7 * w + 6) (x := z) (by omega) (by omega) (fun k hk => by omega) (by rw [wbx_F (by omega)]; exact inIv_F _)
    refine Rn.iastN dX10_readWoman_115 (by first | rfl | exact gC1 (by assumption) | exact gC2 (by assumption) | exact gC3 (by assumption) | exact gL1 (by assumption) | exact gL2 (by assumption) | exact gL3 (by assumption) | exact gL4 (by assumption) | exact gL5 (by assumption) | exact gL6 (by assumption)) ?_
    refine Rn.hpp _ (PS_95 _ _ _ _ _ _ _ _) ?_
    refine Rn.aload_n dX10_readWoman_116 rfl rfl ?_
    refine Rn.getR dX10_readWoman_117 fd_X10_13_9 (by first | rfl | exact gC0 (by assumption) | exact gL0 (by assumption)) rfl ?_
    refine Rn.iconst (v := (nI 0)) dX10_readWoman_120 rfl ?_
    refine Rn.dup2 dX10_readWoman_121 rfl rfl ?_
    refine Rn.ialdN dX10_readWoman_122 (by first | rfl | exact gC1 (by assumption) | exact gC2 (by assumption) | exact gC3 (by assumption) | exact gL1 (by assumption) | exact gL2 (by assumption) | exact gL3 (by assumption) | exact gL4 (by assumption) | exact gL5 (by assumption) | exact gL6 (by assumption)) ?_
    refine Rn.topI (nI w) (by exact hV2.2.1) ?_
    refine Rn.iconst (v := (nI 1)) dX10_readWoman_123 rfl ?_
    refine Rn.iadd dX10_readWoman_124 ?_
    refine Rn.topI (nI (w + 1)) (by exact nI_1 w) ?_
    refine Rn.iastN dX10_readWoman_125 (by first | rfl | exact gC1 (by assumption) | exact gC2 (by assumption) | exact gC3 (by assumption) | exact gL1 (by assumption) | exact gL2 (by assumption) | exact gL3 (by assumption) | exact gL4 (by assumption) | exact gL5 (by assumption) | exact gL6 (by assumption)) ?_
    refine Rn.hpp _ (PS_95 _ _ _ _ _ _ _ _) ?_
    refine Rn.iconst (v := (nI 1)) dX10_readWoman_126 rfl ?_
    exact Rn.zret dX10_readWoman_127 rfl rfl (⟨p2, b2, _, rfl, g1, g2, Or.inr ⟨(w + 1, t, b), rfl, by rw [g3]; exact ho.symm, hV2.woman hw⟩⟩)
  rcases h with ⟨rfl, p2, r1, r2, rfl, r3, r4⟩ | ⟨rfl, p2, b2, r1, r2, r3, rfl, r4, r5, r6⟩
  · rw [h0] at r3
    subst r3
    rw [hz_3] at r4
    refine Rn.hpp _ (PS_PB _ _ _ _ _ _ _ _) ?_
    refine Rn.if_eq (tgt := 114) dX10_readWoman_107 (by decide) (fun _ => ?_) (fun h9 => absurd h9 (by decide))
    refine Rn.iconst (v := (nI 0)) dX10_readWoman_114 rfl ?_
    exact fin (nI 0) p2 p2 r2 r2 (by rw [show cFlag c e 24416759 p2 = p2 from if_neg r4, ← h0, bl_bl])
  · rw [h0] at r4
    subst r4
    rw [hz_3] at r5
    refine Rn.hpp _ (PS_PB _ _ _ _ _ _ _ _) ?_
    refine Rn.if_eq (tgt := 114) dX10_readWoman_107 (by decide) (fun h9 => absurd h9 (by decide)) (fun _ => ?_)
    refine Rn.iconst (v := (nI 1)) dX10_readWoman_110 rfl ?_
    refine Rn.goto 115 dX10_readWoman_111 (by decide) ?_
    exact fin (nI 1) p2 b2 r3 (by omega) (by rw [show cFlag c e 24416759 b2 = nx c e b2 from if_pos r5, r6])
theorem rk_woman (I : Hi) (V0 : Nat → Int32) (w t : Nat) (b : Nat → Int32) (q s : Nat) (p b0 : Nat) (V : Nat → Int32) (hT : TY I c e) (hp : p ≤ e) (hb : b0 ≤ e) (hV : WV V0 w t b V) (q0 : Nat) (h0 : bl c e p = q0) : Ct G GAM mX10_readWoman (d + 6) 0 [.ref 94] (PS I p b0 q s V) (Rv (RLc c e V0 I q s (if w < 8 then cMap (cWoman c e q0) (fun q1 => ((w + 1, t, b), q1)) else .inl b0))) := by
  have he := hT.1
  have hw8 := hV.2.2.2.2.2.2.2.1
  refine Ct.mk [some (.ref 94), none, none, none] ?_
  refine Rn.aload_n dX10_readWoman_0 rfl rfl ?_
  refine Rn.callVp (As := []) dX10_readWoman_1 mv_X10_74 (by first | rfl | exact gC0 (by assumption) | exact gL0 (by assumption)) rfl rfl rfl (Nat.le_of_ble_eq_true rfl) (ct_women G _ _) ?_
  refine Rn.topI (nI w) (by exact hV.2.1) ?_
  refine Rn.istore_n dX10_readWoman_4 rfl (by decide) ?_
  refine Rn.iload_n dX10_readWoman_5 rfl rfl ?_
  refine Rn.bipush (v := (nI 8)) dX10_readWoman_6 rfl ?_
  refine Rn.icmp_eqN dX10_readWoman_8 23 (fun h1 => ?_) (fun h1 => ?_)
  · rw [if_neg (by omega)]
    refine Rn.iconst (v := (nI 0)) dX10_readWoman_23 rfl ?_
    exact Rn.zret dX10_readWoman_24 rfl rfl (⟨p, b0, V, rfl, hp, hb, Or.inl ⟨rfl, rfl, w, t, b, hV⟩⟩)
  · have hw : w < 8 := by omega
    rw [if_pos hw]
    refine Rn.aload_n dX10_readWoman_11 rfl rfl ?_
    refine Rn.iload_n dX10_readWoman_12 rfl rfl ?_
    refine Rn.iconst (v := (nI 0)) dX10_readWoman_13 rfl ?_
    refine Rn.callSp (As := [_, _]) dX10_readWoman_14 ms_X10_61 rfl rfl (Nat.le_of_ble_eq_true rfl) (ct_womanAt G _ _ _ _) ?_
    refine Rn.callV (As := [_]) dX10_readWoman_17 mv_X10_127 (by first | rfl | exact gC0 (by assumption) | exact gL0 (by assumption)) rfl rfl rfl (Nat.le_of_ble_eq_true rfl) (rk_luck G (d + 1) I V0 w t b q s (9 + 7 * w + 0) (by omega) (by omega) (fun k i hi hk => by omega) (fun i hi => wbx_L (by omega)) p b0 V hT hp hb hV q0 h0) (fun _ _ h => h) (fun v J h => ?_)
    obtain ⟨p1, b1, V1, rfl, r1, r2, r3, ⟨rfl, r4⟩ | ⟨rfl, r4⟩⟩ := h
    · have ho : cWoman c e q0 = .inl b1 := gB_l r4
      refine Rn.if_ne (tgt := 25) dX10_readWoman_20 (by decide) (fun h9 => absurd h9 (by decide)) (fun _ => ?_)
      refine Rn.iconst (v := (nI 0)) dX10_readWoman_23 rfl ?_
      exact Rn.zret dX10_readWoman_24 rfl rfl (⟨p1, b1, V1, rfl, r1, r2, Or.inl ⟨rfl, cMap_l ho, w, t, b, r3⟩⟩)
    · have ho : cWoman c e q0 = gB (cReq c e 17484389 (nI 999) (bl c e p1)) (fun q2 => gB (cOpt c e 23716 (nI 9) q2) (fun q3 => .inr (cFlag c e 24416759 q3))) := gB_r r4
      rw [ho]
      refine Rn.if_ne (tgt := 25) dX10_readWoman_20 (by decide) (fun _ => ?_) (fun h9 => absurd h9 (by decide))
      refine Rn.aload_n dX10_readWoman_25 rfl rfl ?_
      refine Rn.ldcS dX10_readWoman_26 sm_X10_131 ?_
      refine Rn.iconst (v := (nI 0)) dX10_readWoman_28 rfl ?_
      refine Rn.sipush (v := (nI 999)) dX10_readWoman_29 rfl ?_
      refine Rn.callV (As := [_, _, _]) dX10_readWoman_32 mv_X10_133 (by first | rfl | exact gC0 (by assumption) | exact gL0 (by assumption)) rfl rfl rfl (Nat.le_of_ble_eq_true rfl) (cx_after G d (PS I p1 b1 q s V1) 1 (nI 999) (by decide) p1 hT.ps r1 (by rfl)) (fun _ _ h => h) (fun v J h => ?_)
      obtain ⟨p2, b2, u1, u2, rfl, hu⟩ := h
      rw [hz_1] at hu
      refine Rn.hpp _ (PS_PB _ _ _ _ _ _ _ _) ?_
      rcases hu with ⟨rfl, u3⟩ | ⟨x, rfl, u3, u4, u5⟩
      · rw [gB_l u3]
        refine Rn.istore_n dX10_readWoman_35 rfl (by decide) ?_
        refine Rn.iload_n dX10_readWoman_36 rfl rfl ?_
        refine Rn.if_ge (tgt := 42) dX10_readWoman_37 (by decide) (fun h9 => absurd h9 (by decide)) (fun _ => ?_)
        refine Rn.iconst (v := (nI 0)) dX10_readWoman_40 rfl ?_
        exact Rn.zret dX10_readWoman_41 rfl rfl (⟨p2, b2, V1, rfl, u1, u2, Or.inl ⟨rfl, rfl, w, t, b, r3⟩⟩)
      · rw [gB_r u5]
        refine Rn.istore_n dX10_readWoman_35 rfl (by decide) ?_
        refine Rn.iload_n dX10_readWoman_36 rfl rfl ?_
        refine Rn.if_ge (tgt := 42) dX10_readWoman_37 (by decide) (fun _ => ?_) (fun h9 => by exfalso; exact h9 u3)
        refine Rn.aload_n dX10_readWoman_42 rfl rfl ?_
        refine Rn.ldcS dX10_readWoman_43 sm_X10_137 ?_
        refine Rn.callV (As := [_]) dX10_readWoman_45 mv_X10_139 (by first | rfl | exact gC0 (by assumption) | exact gL0 (by assumption)) rfl rfl rfl (Nat.le_of_ble_eq_true rfl) (cx_passes G d (PS I p2 b2 q s V1) 2 p2 (by decide) hT.ps u1 (by rfl)) (fun _ _ h => h) (fun v J h => ?_)
        rcases h with ⟨rfl, p3, y1, y2, rfl, y3, y4⟩ | ⟨rfl, p3, b3, y1, y2, y3, rfl, y4, y5, y6⟩
        · rw [hz_2] at y4
          rw [← y3, gB_r (show cOpt c e 23716 (nI 9) p3 = .inr p3 from if_neg y4)]
          refine Rn.hpp _ (PS_PB _ _ _ _ _ _ _ _) ?_
          refine Rn.if_eq (tgt := 61) dX10_readWoman_48 (by decide) (fun _ => ?_) (fun h9 => absurd h9 (by decide))
          refine Rn.iconst (v := (nI 0)) dX10_readWoman_61 rfl ?_
          exact rk_w2 G d I V0 w t b q s hw hT x (nI 0) _ (by decide) p3 p3 V1 y2 r3 p3 (by rw [y3, bl_bl]) _ rfl
        · rw [hz_2] at y5
          rw [← y4, show cOpt c e 23716 (nI 9) b3 = gNum c e (nI 9) (nx c e b3) from if_pos y5]
          refine Rn.hpp _ (PS_PB _ _ _ _ _ _ _ _) ?_
          refine Rn.if_eq (tgt := 61) dX10_readWoman_48 (by decide) (fun h9 => absurd h9 (by decide)) (fun _ => ?_)
          refine Rn.aload_n dX10_readWoman_51 rfl rfl ?_
          refine Rn.iconst (v := (nI 0)) dX10_readWoman_52 rfl ?_
          refine Rn.bipush (v := (nI 9)) dX10_readWoman_53 rfl ?_
          refine Rn.callV (As := [_, _]) dX10_readWoman_55 mv_X10_121 (by first | rfl | exact gC0 (by assumption) | exact gL0 (by assumption)) rfl rfl rfl (Nat.le_of_ble_eq_true rfl) (cx_numI G (d + 3) (PS I p3 b3 q s V1) (nI 9) p3 hT.ps y3 (by rfl)) (fun _ _ h => h) (fun v J h => ?_)
          obtain ⟨p4, b4, z1, z2, rfl, z3, hz⟩ := h
          rw [y6] at z3
          rw [← z3]
          refine Rn.hpp _ (PS_PB _ _ _ _ _ _ _ _) ?_
          rcases hz with ⟨rfl, z4⟩ | ⟨y, rfl, z4, z5, z6⟩
          · rw [gB_l z4]
            refine Rn.goto 62 dX10_readWoman_58 (by decide) ?_
            refine Rn.istore_n dX10_readWoman_62 rfl (by decide) ?_
            refine Rn.iload_n dX10_readWoman_63 rfl rfl ?_
            refine Rn.if_ge (tgt := 69) dX10_readWoman_64 (by decide) (fun h9 => absurd h9 (by decide)) (fun _ => ?_)
            refine Rn.iconst (v := (nI 0)) dX10_readWoman_67 rfl ?_
            exact Rn.zret dX10_readWoman_68 rfl rfl (⟨p4, b4, V1, rfl, z1, z2, Or.inl ⟨rfl, rfl, w, t, b, r3⟩⟩)
          · rw [gB_r z6]
            refine Rn.goto 62 dX10_readWoman_58 (by decide) ?_
            exact rk_w2 G d I V0 w t b q s hw hT x y _ z4 p4 b4 V1 z1 r3 (bl c e p4) rfl _ rfl
end Rcw
