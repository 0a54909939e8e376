/-! the class's memory and image: what is copied -/
section Kcp
variable (G : Gx) (d : Nat)
theorem ct_cp3_46 (I : Hi) : Ct G GAM mX0_copyFrom d 0 [.ref 46, .ref 3] I (Rv (fun v J => v = none ∧ (∀ j, j < 9 → J 46 j = I 3 j) ∧ (∀ j, j < 72 → J 48 j = I 5 j) ∧ ∀ a, ¬ (46 ≤ a ∧ a ≤ 49) → J a = I a)) := by
  refine Ct.mk [some (.ref 46), some (.ref 3)] ?_
  refine Rn.aload_n dX0_copyFrom_0 rfl rfl ?_
  refine Rn.aload_n dX0_copyFrom_1 rfl rfl ?_
  refine Rn.getI dX0_copyFrom_2 fd_X0_31_0 (by first | rfl | exact gC0 (by assumption) | exact gL0 (by assumption)) rfl ?_
  refine Rn.putI dX0_copyFrom_5 fp_X0_31_0 (by first | rfl | exact gC0 (by assumption) | exact gL0 (by assumption)) rfl ?_
  refine Rn.aload_n dX0_copyFrom_8 rfl rfl ?_
  refine Rn.aload_n dX0_copyFrom_9 rfl rfl ?_
  refine Rn.getI dX0_copyFrom_10 fd_X0_34_0 (by first | rfl | exact gC0 (by assumption) | exact gL0 (by assumption)) rfl ?_
  refine Rn.putI dX0_copyFrom_13 fp_X0_34_0 (by first | rfl | exact gC0 (by assumption) | exact gL0 (by assumption)) rfl ?_
  refine Rn.aload_n dX0_copyFrom_16 rfl rfl ?_
  refine Rn.aload_n dX0_copyFrom_17 rfl rfl ?_
  refine Rn.getI dX0_copyFrom_18 fd_X0_37_0 (by first | rfl | exact gC0 (by assumption) | exact gL0 (by assumption)) rfl ?_
  refine Rn.putI dX0_copyFrom_21 fp_X0_37_0 (by first | rfl | exact gC0 (by assumption) | exact gL0 (by assumption)) rfl ?_
  refine Rn.aload_n dX0_copyFrom_24 rfl rfl ?_
  refine Rn.aload_n dX0_copyFrom_25 rfl rfl ?_
  refine Rn.getI dX0_copyFrom_26 fd_X0_40_0 (by first | rfl | exact gC0 (by assumption) | exact gL0 (by assumption)) rfl ?_
  refine Rn.putI dX0_copyFrom_29 fp_X0_40_0 (by first | rfl | exact gC0 (by assumption) | exact gL0 (by assumption)) rfl ?_
  refine Rn.aload_n dX0_copyFrom_32 rfl rfl ?_
  refine Rn.aload_n dX0_copyFrom_33 rfl rfl ?_
  refine Rn.getI dX0_copyFrom_34 fd_X0_9_0 (by first | rfl | exact gC0 (by assumption) | exact gL0 (by assumption)) rfl ?_
  refine Rn.putI dX0_copyFrom_37 fp_X0_9_0 (by first | rfl | exact gC0 (by assumption) | exact gL0 (by assumption)) rfl ?_
  refine Rn.aload_n dX0_copyFrom_40 rfl rfl ?_
  refine Rn.aload_n dX0_copyFrom_41 rfl rfl ?_
  refine Rn.getI dX0_copyFrom_42 fd_X0_15_0 (by first | rfl | exact gC0 (by assumption) | exact gL0 (by assumption)) rfl ?_
  refine Rn.putI dX0_copyFrom_45 fp_X0_15_0 (by first | rfl | exact gC0 (by assumption) | exact gL0 (by assumption)) rfl ?_
  refine Rn.aload_n dX0_copyFrom_48 rfl rfl ?_
  refine Rn.aload_n dX0_copyFrom_49 rfl rfl ?_
  refine Rn.getI dX0_copyFrom_50 fd_X0_18_0 (by first | rfl | exact gC0 (by assumption) | exact gL0 (by assumption)) rfl ?_
  refine Rn.putI dX0_copyFrom_53 fp_X0_18_0 (by first | rfl | exact gC0 (by assumption) | exact gL0 (by assumption)) rfl ?_
  refine Rn.aload_n dX0_copyFrom_56 rfl rfl ?_
  refine Rn.aload_n dX0_copyFrom_57 rfl rfl ?_
  refine Rn.getI dX0_copyFrom_58 fd_X0_43_0 (by first | rfl | exact gC0 (by assumption) | exact gL0 (by assumption)) rfl ?_
  refine Rn.putI dX0_copyFrom_61 fp_X0_43_0 (by first | rfl | exact gC0 (by assumption) | exact gL0 (by assumption)) rfl ?_
  refine Rn.aload_n dX0_copyFrom_64 rfl rfl ?_
  refine Rn.aload_n dX0_copyFrom_65 rfl rfl ?_
  refine Rn.getI dX0_copyFrom_66 fd_X0_46_0 (by first | rfl | exact gC0 (by assumption) | exact gL0 (by assumption)) rfl ?_
  refine Rn.putI dX0_copyFrom_69 fp_X0_46_0 (by first | rfl | exact gC0 (by assumption) | exact gL0 (by assumption)) rfl ?_
  refine Rn.aload_n dX0_copyFrom_72 rfl rfl ?_
  refine Rn.getR dX0_copyFrom_73 fd_X0_21_0 (by first | rfl | exact gC0 (by assumption) | exact gL0 (by assumption)) rfl ?_
  refine Rn.iconst (v := (nI 0)) dX0_copyFrom_76 rfl ?_
  refine Rn.aload_n dX0_copyFrom_77 rfl rfl ?_
  refine Rn.getR dX0_copyFrom_78 fd_X0_21_0 (by first | rfl | exact gC0 (by assumption) | exact gL0 (by assumption)) rfl ?_
  refine Rn.iconst (v := (nI 0)) dX0_copyFrom_81 rfl ?_
  refine Rn.bipush (v := (nI 56)) dX0_copyFrom_82 rfl ?_
  refine Rn.acopy dX0_copyFrom_84 ac_X0_49 (by first | rfl | exact gC1 (by assumption) | exact gC2 (by assumption) | exact gC3 (by assumption) | exact gL1 (by assumption) | exact gL2 (by assumption) | exact gL3 (by assumption) | exact gL4 (by assumption) | exact gL5 (by assumption) | exact gL6 (by assumption)) (by first | rfl | exact gC1 (by assumption) | exact gC2 (by assumption) | exact gC3 (by assumption) | exact gL1 (by assumption) | exact gL2 (by assumption) | exact gL3 (by assumption) | exact gL4 (by assumption) | exact gL5 (by assumption) | exact gL6 (by assumption)) (by decide) (by decide) (by decide) (Nat.le_of_ble_eq_true rfl) ?_
  refine Rn.aload_n dX0_copyFrom_87 rfl rfl ?_
  refine Rn.getR dX0_copyFrom_88 fd_X0_25_0 (by first | rfl | exact gC0 (by assumption) | exact gL0 (by assumption)) rfl ?_
  refine Rn.iconst (v := (nI 0)) dX0_copyFrom_91 rfl ?_
  refine Rn.aload_n dX0_copyFrom_92 rfl rfl ?_
  refine Rn.getR dX0_copyFrom_93 fd_X0_25_0 (by first | rfl | exact gC0 (by assumption) | exact gL0 (by assumption)) rfl ?_
  refine Rn.iconst (v := (nI 0)) dX0_copyFrom_96 rfl ?_
  refine Rn.bipush (v := (nI 72)) dX0_copyFrom_97 rfl ?_
  refine Rn.acopy dX0_copyFrom_99 ac_X0_49 (by first | rfl | exact gC1 (by assumption) | exact gC2 (by assumption) | exact gC3 (by assumption) | exact gL1 (by assumption) | exact gL2 (by assumption) | exact gL3 (by assumption) | exact gL4 (by assumption) | exact gL5 (by assumption) | exact gL6 (by assumption)) (by first | rfl | exact gC1 (by assumption) | exact gC2 (by assumption) | exact gC3 (by assumption) | exact gL1 (by assumption) | exact gL2 (by assumption) | exact gL3 (by assumption) | exact gL4 (by assumption) | exact gL5 (by assumption) | exact gL6 (by assumption)) (by decide) (by decide) (by decide) (Nat.le_of_ble_eq_true rfl) ?_
  refine Rn.aload_n dX0_copyFrom_102 rfl rfl ?_
  refine Rn.getR dX0_copyFrom_103 fd_X0_28_0 (by first | rfl | exact gC0 (by assumption) | exact gL0 (by assumption)) rfl ?_
  refine Rn.iconst (v := (nI 0)) dX0_copyFrom_106 rfl ?_
  refine Rn.aload_n dX0_copyFrom_107 rfl rfl ?_
  refine Rn.getR dX0_copyFrom_108 fd_X0_28_0 (by first | rfl | exact gC0 (by assumption) | exact gL0 (by assumption)) rfl ?_
  refine Rn.iconst (v := (nI 0)) dX0_copyFrom_111 rfl ?_
  refine Rn.sipush (v := (nI 240)) dX0_copyFrom_112 rfl ?_
  refine Rn.acopy dX0_copyFrom_115 ac_X0_49 (by first | rfl | exact gC1 (by assumption) | exact gC2 (by assumption) | exact gC3 (by assumption) | exact gL1 (by assumption) | exact gL2 (by assumption) | exact gL3 (by assumption) | exact gL4 (by assumption) | exact gL5 (by assumption) | exact gL6 (by assumption)) (by first | rfl | exact gC1 (by assumption) | exact gC2 (by assumption) | exact gC3 (by assumption) | exact gL1 (by assumption) | exact gL2 (by assumption) | exact gL3 (by assumption) | exact gL4 (by assumption) | exact gL5 (by assumption) | exact gL6 (by assumption)) (by decide) (by decide) (by decide) (Nat.le_of_ble_eq_true rfl) ?_
  have f9 : ∀ j, j < 9 → j = 0 ∨ j = 1 ∨ j = 2 ∨ j = 3 ∨ j = 4 ∨ j = 5 ∨ j = 6 ∨ j = 7 ∨ j = 8 := fun j hj => by omega
  exact Rn.vret dX0_copyFrom_118 rfl (⟨rfl, fun j hj => by rcases f9 j hj with rfl | rfl | rfl | rfl | rfl | rfl | rfl | rfl | rfl <;> rfl, fun j hj => by rw [zset_ne _ _ (by decide), zset_at, cpy_in hj]; first | done | rfl, fun a ha => by rw [zset_ne _ _ (by omega), zset_ne _ _ (by omega), zset_ne _ _ (by omega), zup_ne _ _ (by omega), zup_ne _ _ (by omega), zup_ne _ _ (by omega), zup_ne _ _ (by omega), zup_ne _ _ (by omega), zup_ne _ _ (by omega), zup_ne _ _ (by omega), zup_ne _ _ (by omega), zup_ne _ _ (by omega)]⟩)
theorem ct_cp3_50 (I : Hi) : Ct G GAM mX0_copyFrom d 0 [.ref 50, .ref 3] I (Rv (fun v J => v = none ∧ (∀ j, j < 9 → J 50 j = I 3 j) ∧ (∀ j, j < 72 → J 52 j = I 5 j) ∧ ∀ a, ¬ (50 ≤ a ∧ a ≤ 53) → J a = I a)) := by
  refine Ct.mk [some (.ref 50), some (.ref 3)] ?_
  refine Rn.aload_n dX0_copyFrom_0 rfl rfl ?_
  refine Rn.aload_n dX0_copyFrom_1 rfl rfl ?_
  refine Rn.getI dX0_copyFrom_2 fd_X0_31_0 (by first | rfl | exact gC0 (by assumption) | exact gL0 (by assumption)) rfl ?_
  refine Rn.putI dX0_copyFrom_5 fp_X0_31_0 (by first | rfl | exact gC0 (by assumption) | exact gL0 (by assumption)) rfl ?_
  refine Rn.aload_n dX0_copyFrom_8 rfl rfl ?_
  refine Rn.aload_n dX0_copyFrom_9 rfl rfl ?_
  refine Rn.getI dX0_copyFrom_10 fd_X0_34_0 (by first | rfl | exact gC0 (by assumption) | exact gL0 (by assumption)) rfl ?_
  refine Rn.putI dX0_copyFrom_13 fp_X0_34_0 (by first | rfl | exact gC0 (by assumption) | exact gL0 (by assumption)) rfl ?_
  refine Rn.aload_n dX0_copyFrom_16 rfl rfl ?_
  refine Rn.aload_n dX0_copyFrom_17 rfl rfl ?_
  refine Rn.getI dX0_copyFrom_18 fd_X0_37_0 (by first | rfl | exact gC0 (by assumption) | exact gL0 (by assumption)) rfl ?_
  refine Rn.putI dX0_copyFrom_21 fp_X0_37_0 (by first | rfl | exact gC0 (by assumption) | exact gL0 (by assumption)) rfl ?_
  refine Rn.aload_n dX0_copyFrom_24 rfl rfl ?_
  refine Rn.aload_n dX0_copyFrom_25 rfl rfl ?_
  refine Rn.getI dX0_copyFrom_26 fd_X0_40_0 (by first | rfl | exact gC0 (by assumption) | exact gL0 (by assumption)) rfl ?_
  refine Rn.putI dX0_copyFrom_29 fp_X0_40_0 (by first | rfl | exact gC0 (by assumption) | exact gL0 (by assumption)) rfl ?_
  refine Rn.aload_n dX0_copyFrom_32 rfl rfl ?_
  refine Rn.aload_n dX0_copyFrom_33 rfl rfl ?_
  refine Rn.getI dX0_copyFrom_34 fd_X0_9_0 (by first | rfl | exact gC0 (by assumption) | exact gL0 (by assumption)) rfl ?_
  refine Rn.putI dX0_copyFrom_37 fp_X0_9_0 (by first | rfl | exact gC0 (by assumption) | exact gL0 (by assumption)) rfl ?_
  refine Rn.aload_n dX0_copyFrom_40 rfl rfl ?_
  refine Rn.aload_n dX0_copyFrom_41 rfl rfl ?_
  refine Rn.getI dX0_copyFrom_42 fd_X0_15_0 (by first | rfl | exact gC0 (by assumption) | exact gL0 (by assumption)) rfl ?_
  refine Rn.putI dX0_copyFrom_45 fp_X0_15_0 (by first | rfl | exact gC0 (by assumption) | exact gL0 (by assumption)) rfl ?_
  refine Rn.aload_n dX0_copyFrom_48 rfl rfl ?_
  refine Rn.aload_n dX0_copyFrom_49 rfl rfl ?_
  refine Rn.getI dX0_copyFrom_50 fd_X0_18_0 (by first | rfl | exact gC0 (by assumption) | exact gL0 (by assumption)) rfl ?_
  refine Rn.putI dX0_copyFrom_53 fp_X0_18_0 (by first | rfl | exact gC0 (by assumption) | exact gL0 (by assumption)) rfl ?_
  refine Rn.aload_n dX0_copyFrom_56 rfl rfl ?_
  refine Rn.aload_n dX0_copyFrom_57 rfl rfl ?_
  refine Rn.getI dX0_copyFrom_58 fd_X0_43_0 (by first | rfl | exact gC0 (by assumption) | exact gL0 (by assumption)) rfl ?_
  refine Rn.putI dX0_copyFrom_61 fp_X0_43_0 (by first | rfl | exact gC0 (by assumption) | exact gL0 (by assumption)) rfl ?_
  refine Rn.aload_n dX0_copyFrom_64 rfl rfl ?_
  refine Rn.aload_n dX0_copyFrom_65 rfl rfl ?_
  refine Rn.getI dX0_copyFrom_66 fd_X0_46_0 (by first | rfl | exact gC0 (by assumption) | exact gL0 (by assumption)) rfl ?_
  refine Rn.putI dX0_copyFrom_69 fp_X0_46_0 (by first | rfl | exact gC0 (by assumption) | exact gL0 (by assumption)) rfl ?_
  refine Rn.aload_n dX0_copyFrom_72 rfl rfl ?_
  refine Rn.getR dX0_copyFrom_73 fd_X0_21_0 (by first | rfl | exact gC0 (by assumption) | exact gL0 (by assumption)) rfl ?_
  refine Rn.iconst (v := (nI 0)) dX0_copyFrom_76 rfl ?_
  refine Rn.aload_n dX0_copyFrom_77 rfl rfl ?_
  refine Rn.getR dX0_copyFrom_78 fd_X0_21_0 (by first | rfl | exact gC0 (by assumption) | exact gL0 (by assumption)) rfl ?_
  refine Rn.iconst (v := (nI 0)) dX0_copyFrom_81 rfl ?_
  refine Rn.bipush (v := (nI 56)) dX0_copyFrom_82 rfl ?_
  refine Rn.acopy dX0_copyFrom_84 ac_X0_49 (by first | rfl | exact gC1 (by assumption) | exact gC2 (by assumption) | exact gC3 (by assumption) | exact gL1 (by assumption) | exact gL2 (by assumption) | exact gL3 (by assumption) | exact gL4 (by assumption) | exact gL5 (by assumption) | exact gL6 (by assumption)) (by first | rfl | exact gC1 (by assumption) | exact gC2 (by assumption) | exact gC3 (by assumption) | exact gL1 (by assumption) | exact gL2 (by assumption) | exact gL3 (by assumption) | exact gL4 (by assumption) | exact gL5 (by assumption) | exact gL6 (by assumption)) (by decide) (by decide) (by decide) (Nat.le_of_ble_eq_true rfl) ?_
  refine Rn.aload_n dX0_copyFrom_87 rfl rfl ?_
  refine Rn.getR dX0_copyFrom_88 fd_X0_25_0 (by first | rfl | exact gC0 (by assumption) | exact gL0 (by assumption)) rfl ?_
  refine Rn.iconst (v := (nI 0)) dX0_copyFrom_91 rfl ?_
  refine Rn.aload_n dX0_copyFrom_92 rfl rfl ?_
  refine Rn.getR dX0_copyFrom_93 fd_X0_25_0 (by first | rfl | exact gC0 (by assumption) | exact gL0 (by assumption)) rfl ?_
  refine Rn.iconst (v := (nI 0)) dX0_copyFrom_96 rfl ?_
  refine Rn.bipush (v := (nI 72)) dX0_copyFrom_97 rfl ?_
  refine Rn.acopy dX0_copyFrom_99 ac_X0_49 (by first | rfl | exact gC1 (by assumption) | exact gC2 (by assumption) | exact gC3 (by assumption) | exact gL1 (by assumption) | exact gL2 (by assumption) | exact gL3 (by assumption) | exact gL4 (by assumption) | exact gL5 (by assumption) | exact gL6 (by assumption)) (by first | rfl | exact gC1 (by assumption) | exact gC2 (by assumption) | exact gC3 (by assumption) | exact gL1 (by assumption) | exact gL2 (by assumption) | exact gL3 (by assumption) | exact gL4 (by assumption) | exact gL5 (by assumption) | exact gL6 (by assumption)) (by decide) (by decide) (by decide) (Nat.le_of_ble_eq_true rfl) ?_
  refine Rn.aload_n dX0_copyFrom_102 rfl rfl ?_
  refine Rn.getR dX0_copyFrom_103 fd_X0_28_0 (by first | rfl | exact gC0 (by assumption) | exact gL0 (by assumption)) rfl ?_
  refine Rn.iconst (v := (nI 0)) dX0_copyFrom_106 rfl ?_
  refine Rn.aload_n dX0_copyFrom_107 rfl rfl ?_
  refine Rn.getR dX0_copyFrom_108 fd_X0_28_0 (by first | rfl | exact gC0 (by assumption) | exact gL0 (by assumption)) rfl ?_
  refine Rn.iconst (v := (nI 0)) dX0_copyFrom_111 rfl ?_
  refine Rn.sipush (v := (nI 240)) dX0_copyFrom_112 rfl ?_
  refine Rn.acopy dX0_copyFrom_115 ac_X0_49 (by first | rfl | exact gC1 (by assumption) | exact gC2 (by assumption) | exact gC3 (by assumption) | exact gL1 (by assumption) | exact gL2 (by assumption) | exact gL3 (by assumption) | exact gL4 (by assumption) | exact gL5 (by assumption) | exact gL6 (by assumption)) (by first | rfl | exact gC1 (by assumption) | exact gC2 (by assumption) | exact gC3 (by assumption) | exact gL1 (by assumption) | exact gL2 (by assumption) | exact gL3 (by assumption) | exact gL4 (by assumption) | exact gL5 (by assumption) | exact gL6 (by assumption)) (by decide) (by decide) (by decide) (Nat.le_of_ble_eq_true rfl) ?_
  have f9 : ∀ j, j < 9 → j = 0 ∨ j = 1 ∨ j = 2 ∨ j = 3 ∨ j = 4 ∨ j = 5 ∨ j = 6 ∨ j = 7 ∨ j = 8 := fun j hj => by omega
  exact Rn.vret dX0_copyFrom_118 rfl (⟨rfl, fun j hj => by rcases f9 j hj with rfl | rfl | rfl | rfl | rfl | rfl | rfl | rfl | rfl <;> rfl, fun j hj => by rw [zset_ne _ _ (by decide), zset_at, cpy_in hj]; first | done | rfl, fun a ha => by rw [zset_ne _ _ (by omega), zset_ne _ _ (by omega), zset_ne _ _ (by omega), zup_ne _ _ (by omega), zup_ne _ _ (by omega), zup_ne _ _ (by omega), zup_ne _ _ (by omega), zup_ne _ _ (by omega), zup_ne _ _ (by omega), zup_ne _ _ (by omega), zup_ne _ _ (by omega), zup_ne _ _ (by omega)]⟩)
theorem ct_cp3_54 (I : Hi) : Ct G GAM mX0_copyFrom d 0 [.ref 54, .ref 3] I (Rv (fun v J => v = none ∧ (∀ j, j < 9 → J 54 j = I 3 j) ∧ (∀ j, j < 72 → J 56 j = I 5 j) ∧ ∀ a, ¬ (54 ≤ a ∧ a ≤ 57) → J a = I a)) := by
  refine Ct.mk [some (.ref 54), some (.ref 3)] ?_
  refine Rn.aload_n dX0_copyFrom_0 rfl rfl ?_
  refine Rn.aload_n dX0_copyFrom_1 rfl rfl ?_
  refine Rn.getI dX0_copyFrom_2 fd_X0_31_0 (by first | rfl | exact gC0 (by assumption) | exact gL0 (by assumption)) rfl ?_
  refine Rn.putI dX0_copyFrom_5 fp_X0_31_0 (by first | rfl | exact gC0 (by assumption) | exact gL0 (by assumption)) rfl ?_
  refine Rn.aload_n dX0_copyFrom_8 rfl rfl ?_
  refine Rn.aload_n dX0_copyFrom_9 rfl rfl ?_
  refine Rn.getI dX0_copyFrom_10 fd_X0_34_0 (by first | rfl | exact gC0 (by assumption) | exact gL0 (by assumption)) rfl ?_
  refine Rn.putI dX0_copyFrom_13 fp_X0_34_0 (by first | rfl | exact gC0 (by assumption) | exact gL0 (by assumption)) rfl ?_
  refine Rn.aload_n dX0_copyFrom_16 rfl rfl ?_
  refine Rn.aload_n dX0_copyFrom_17 rfl rfl ?_
  refine Rn.getI dX0_copyFrom_18 fd_X0_37_0 (by first | rfl | exact gC0 (by assumption) | exact gL0 (by assumption)) rfl ?_
  refine Rn.putI dX0_copyFrom_21 fp_X0_37_0 (by first | rfl | exact gC0 (by assumption) | exact gL0 (by assumption)) rfl ?_
  refine Rn.aload_n dX0_copyFrom_24 rfl rfl ?_
  refine Rn.aload_n dX0_copyFrom_25 rfl rfl ?_
  refine Rn.getI dX0_copyFrom_26 fd_X0_40_0 (by first | rfl | exact gC0 (by assumption) | exact gL0 (by assumption)) rfl ?_
  refine Rn.putI dX0_copyFrom_29 fp_X0_40_0 (by first | rfl | exact gC0 (by assumption) | exact gL0 (by assumption)) rfl ?_
  refine Rn.aload_n dX0_copyFrom_32 rfl rfl ?_
  refine Rn.aload_n dX0_copyFrom_33 rfl rfl ?_
  refine Rn.getI dX0_copyFrom_34 fd_X0_9_0 (by first | rfl | exact gC0 (by assumption) | exact gL0 (by assumption)) rfl ?_
  refine Rn.putI dX0_copyFrom_37 fp_X0_9_0 (by first | rfl | exact gC0 (by assumption) | exact gL0 (by assumption)) rfl ?_
  refine Rn.aload_n dX0_copyFrom_40 rfl rfl ?_
  refine Rn.aload_n dX0_copyFrom_41 rfl rfl ?_
  refine Rn.getI dX0_copyFrom_42 fd_X0_15_0 (by first | rfl | exact gC0 (by assumption) | exact gL0 (by assumption)) rfl ?_
  refine Rn.putI dX0_copyFrom_45 fp_X0_15_0 (by first | rfl | exact gC0 (by assumption) | exact gL0 (by assumption)) rfl ?_
  refine Rn.aload_n dX0_copyFrom_48 rfl rfl ?_
  refine Rn.aload_n dX0_copyFrom_49 rfl rfl ?_
  refine Rn.getI dX0_copyFrom_50 fd_X0_18_0 (by first | rfl | exact gC0 (by assumption) | exact gL0 (by assumption)) rfl ?_
  refine Rn.putI dX0_copyFrom_53 fp_X0_18_0 (by first | rfl | exact gC0 (by assumption) | exact gL0 (by assumption)) rfl ?_
  refine Rn.aload_n dX0_copyFrom_56 rfl rfl ?_
  refine Rn.aload_n dX0_copyFrom_57 rfl rfl ?_
  refine Rn.getI dX0_copyFrom_58 fd_X0_43_0 (by first | rfl | exact gC0 (by assumption) | exact gL0 (by assumption)) rfl ?_
  refine Rn.putI dX0_copyFrom_61 fp_X0_43_0 (by first | rfl | exact gC0 (by assumption) | exact gL0 (by assumption)) rfl ?_
  refine Rn.aload_n dX0_copyFrom_64 rfl rfl ?_
  refine Rn.aload_n dX0_copyFrom_65 rfl rfl ?_
  refine Rn.getI dX0_copyFrom_66 fd_X0_46_0 (by first | rfl | exact gC0 (by assumption) | exact gL0 (by assumption)) rfl ?_
  refine Rn.putI dX0_copyFrom_69 fp_X0_46_0 (by first | rfl | exact gC0 (by assumption) | exact gL0 (by assumption)) rfl ?_
  refine Rn.aload_n dX0_copyFrom_72 rfl rfl ?_
  refine Rn.getR dX0_copyFrom_73 fd_X0_21_0 (by first | rfl | exact gC0 (by assumption) | exact gL0 (by assumption)) rfl ?_
  refine Rn.iconst (v := (nI 0)) dX0_copyFrom_76 rfl ?_
  refine Rn.aload_n dX0_copyFrom_77 rfl rfl ?_
  refine Rn.getR dX0_copyFrom_78 fd_X0_21_0 (by first | rfl | exact gC0 (by assumption) | exact gL0 (by assumption)) rfl ?_
  refine Rn.iconst (v := (nI 0)) dX0_copyFrom_81 rfl ?_
  refine Rn.bipush (v := (nI 56)) dX0_copyFrom_82 rfl ?_
  refine Rn.acopy dX0_copyFrom_84 ac_X0_49 (by first | rfl | exact gC1 (by assumption) | exact gC2 (by assumption) | exact gC3 (by assumption) | exact gL1 (by assumption) | exact gL2 (by assumption) | exact gL3 (by assumption) | exact gL4 (by assumption) | exact gL5 (by assumption) | exact gL6 (by assumption)) (by first | rfl | exact gC1 (by assumption) | exact gC2 (by assumption) | exact gC3 (by assumption) | exact gL1 (by assumption) | exact gL2 (by assumption) | exact gL3 (by assumption) | exact gL4 (by assumption) | exact gL5 (by assumption) | exact gL6 (by assumption)) (by decide) (by decide) (by decide) (Nat.le_of_ble_eq_true rfl) ?_
  refine Rn.aload_n dX0_copyFrom_87 rfl rfl ?_
  refine Rn.getR dX0_copyFrom_88 fd_X0_25_0 (by first | rfl | exact gC0 (by assumption) | exact gL0 (by assumption)) rfl ?_
  refine Rn.iconst (v := (nI 0)) dX0_copyFrom_91 rfl ?_
  refine Rn.aload_n dX0_copyFrom_92 rfl rfl ?_
  refine Rn.getR dX0_copyFrom_93 fd_X0_25_0 (by first | rfl | exact gC0 (by assumption) | exact gL0 (by assumption)) rfl ?_
  refine Rn.iconst (v := (nI 0)) dX0_copyFrom_96 rfl ?_
  refine Rn.bipush (v := (nI 72)) dX0_copyFrom_97 rfl ?_
  refine Rn.acopy dX0_copyFrom_99 ac_X0_49 (by first | rfl | exact gC1 (by assumption) | exact gC2 (by assumption) | exact gC3 (by assumption) | exact gL1 (by assumption) | exact gL2 (by assumption) | exact gL3 (by assumption) | exact gL4 (by assumption) | exact gL5 (by assumption) | exact gL6 (by assumption)) (by first | rfl | exact gC1 (by assumption) | exact gC2 (by assumption) | exact gC3 (by assumption) | exact gL1 (by assumption) | exact gL2 (by assumption) | exact gL3 (by assumption) | exact gL4 (by assumption) | exact gL5 (by assumption) | exact gL6 (by assumption)) (by decide) (by decide) (by decide) (Nat.le_of_ble_eq_true rfl) ?_
  refine Rn.aload_n dX0_copyFrom_102 rfl rfl ?_
  refine Rn.getR dX0_copyFrom_103 fd_X0_28_0 (by first | rfl | exact gC0 (by assumption) | exact gL0 (by assumption)) rfl ?_
  refine Rn.iconst (v := (nI 0)) dX0_copyFrom_106 rfl ?_
  refine Rn.aload_n dX0_copyFrom_107 rfl rfl ?_
  refine Rn.getR dX0_copyFrom_108 fd_X0_28_0 (by first | rfl | exact gC0 (by assumption) | exact gL0 (by assumption)) rfl ?_
  refine Rn.iconst (v := (nI 0)) dX0_copyFrom_111 rfl ?_
  refine Rn.sipush (v := (nI 240)) dX0_copyFrom_112 rfl ?_
  refine Rn.acopy dX0_copyFrom_115 ac_X0_49 (by first | rfl | exact gC1 (by assumption) | exact gC2 (by assumption) | exact gC3 (by assumption) | exact gL1 (by assumption) | exact gL2 (by assumption) | exact gL3 (by assumption) | exact gL4 (by assumption) | exact gL5 (by assumption) | exact gL6 (by assumption)) (by first | rfl | exact gC1 (by assumption) | exact gC2 (by assumption) | exact gC3 (by assumption) | exact gL1 (by assumption) | exact gL2 (by assumption) | exact gL3 (by assumption) | exact gL4 (by assumption) | exact gL5 (by assumption) | exact gL6 (by assumption)) (by decide) (by decide) (by decide) (Nat.le_of_ble_eq_true rfl) ?_
  have f9 : ∀ j, j < 9 → j = 0 ∨ j = 1 ∨ j = 2 ∨ j = 3 ∨ j = 4 ∨ j = 5 ∨ j = 6 ∨ j = 7 ∨ j = 8 := fun j hj => by omega
  exact Rn.vret dX0_copyFrom_118 rfl (⟨rfl, fun j hj => by rcases f9 j hj with rfl | rfl | rfl | rfl | rfl | rfl | rfl | rfl | rfl <;> rfl, fun j hj => by rw [zset_ne _ _ (by decide), zset_at, cpy_in hj]; first | done | rfl, fun a ha => by rw [zset_ne _ _ (by omega), zset_ne _ _ (by omega), zset_ne _ _ (by omega), zup_ne _ _ (by omega), zup_ne _ _ (by omega), zup_ne _ _ (by omega), zup_ne _ _ (by omega), zup_ne _ _ (by omega), zup_ne _ _ (by omega), zup_ne _ _ (by omega), zup_ne _ _ (by omega), zup_ne _ _ (by omega)]⟩)
theorem ct_cp3_58 (I : Hi) : Ct G GAM mX0_copyFrom d 0 [.ref 58, .ref 3] I (Rv (fun v J => v = none ∧ (∀ j, j < 9 → J 58 j = I 3 j) ∧ (∀ j, j < 72 → J 60 j = I 5 j) ∧ ∀ a, ¬ (58 ≤ a ∧ a ≤ 61) → J a = I a)) := by
  refine Ct.mk [some (.ref 58), some (.ref 3)] ?_
  refine Rn.aload_n dX0_copyFrom_0 rfl rfl ?_
  refine Rn.aload_n dX0_copyFrom_1 rfl rfl ?_
  refine Rn.getI dX0_copyFrom_2 fd_X0_31_0 (by first | rfl | exact gC0 (by assumption) | exact gL0 (by assumption)) rfl ?_
  refine Rn.putI dX0_copyFrom_5 fp_X0_31_0 (by first | rfl | exact gC0 (by assumption) | exact gL0 (by assumption)) rfl ?_
  refine Rn.aload_n dX0_copyFrom_8 rfl rfl ?_
  refine Rn.aload_n dX0_copyFrom_9 rfl rfl ?_
  refine Rn.getI dX0_copyFrom_10 fd_X0_34_0 (by first | rfl | exact gC0 (by assumption) | exact gL0 (by assumption)) rfl ?_
  refine Rn.putI dX0_copyFrom_13 fp_X0_34_0 (by first | rfl | exact gC0 (by assumption) | exact gL0 (by assumption)) rfl ?_
  refine Rn.aload_n dX0_copyFrom_16 rfl rfl ?_
  refine Rn.aload_n dX0_copyFrom_17 rfl rfl ?_
  refine Rn.getI dX0_copyFrom_18 fd_X0_37_0 (by first | rfl | exact gC0 (by assumption) | exact gL0 (by assumption)) rfl ?_
  refine Rn.putI dX0_copyFrom_21 fp_X0_37_0 (by first | rfl | exact gC0 (by assumption) | exact gL0 (by assumption)) rfl ?_
  refine Rn.aload_n dX0_copyFrom_24 rfl rfl ?_
  refine Rn.aload_n dX0_copyFrom_25 rfl rfl ?_
  refine Rn.getI dX0_copyFrom_26 fd_X0_40_0 (by first | rfl | exact gC0 (by assumption) | exact gL0 (by assumption)) rfl ?_
  refine Rn.putI dX0_copyFrom_29 fp_X0_40_0 (by first | rfl | exact gC0 (by assumption) | exact gL0 (by assumption)) rfl ?_
  refine Rn.aload_n dX0_copyFrom_32 rfl rfl ?_
  refine Rn.aload_n dX0_copyFrom_33 rfl rfl ?_
  refine Rn.getI dX0_copyFrom_34 fd_X0_9_0 (by first | rfl | exact gC0 (by assumption) | exact gL0 (by assumption)) rfl ?_
  refine Rn.putI dX0_copyFrom_37 fp_X0_9_0 (by first | rfl | exact gC0 (by assumption) | exact gL0 (by assumption)) rfl ?_
  refine Rn.aload_n dX0_copyFrom_40 rfl rfl ?_
  refine Rn.aload_n dX0_copyFrom_41 rfl rfl ?_
  refine Rn.getI dX0_copyFrom_42 fd_X0_15_0 (by first | rfl | exact gC0 (by assumption) | exact gL0 (by assumption)) rfl ?_
  refine Rn.putI dX0_copyFrom_45 fp_X0_15_0 (by first | rfl | exact gC0 (by assumption) | exact gL0 (by assumption)) rfl ?_
  refine Rn.aload_n dX0_copyFrom_48 rfl rfl ?_
  refine Rn.aload_n dX0_copyFrom_49 rfl rfl ?_
  refine Rn.getI dX0_copyFrom_50 fd_X0_18_0 (by first | rfl | exact gC0 (by assumption) | exact gL0 (by assumption)) rfl ?_
  refine Rn.putI dX0_copyFrom_53 fp_X0_18_0 (by first | rfl | exact gC0 (by assumption) | exact gL0 (by assumption)) rfl ?_
  refine Rn.aload_n dX0_copyFrom_56 rfl rfl ?_
  refine Rn.aload_n dX0_copyFrom_57 rfl rfl ?_
  refine Rn.getI dX0_copyFrom_58 fd_X0_43_0 (by first | rfl | exact gC0 (by assumption) | exact gL0 (by assumption)) rfl ?_
  refine Rn.putI dX0_copyFrom_61 fp_X0_43_0 (by first | rfl | exact gC0 (by assumption) | exact gL0 (by assumption)) rfl ?_
  refine Rn.aload_n dX0_copyFrom_64 rfl rfl ?_
  refine Rn.aload_n dX0_copyFrom_65 rfl rfl ?_
  refine Rn.getI dX0_copyFrom_66 fd_X0_46_0 (by first | rfl | exact gC0 (by assumption) | exact gL0 (by assumption)) rfl ?_
  refine Rn.putI dX0_copyFrom_69 fp_X0_46_0 (by first | rfl | exact gC0 (by assumption) | exact gL0 (by assumption)) rfl ?_
  refine Rn.aload_n dX0_copyFrom_72 rfl rfl ?_
  refine Rn.getR dX0_copyFrom_73 fd_X0_21_0 (by first | rfl | exact gC0 (by assumption) | exact gL0 (by assumption)) rfl ?_
  refine Rn.iconst (v := (nI 0)) dX0_copyFrom_76 rfl ?_
  refine Rn.aload_n dX0_copyFrom_77 rfl rfl ?_
  refine Rn.getR dX0_copyFrom_78 fd_X0_21_0 (by first | rfl | exact gC0 (by assumption) | exact gL0 (by assumption)) rfl ?_
  refine Rn.iconst (v := (nI 0)) dX0_copyFrom_81 rfl ?_
  refine Rn.bipush (v := (nI 56)) dX0_copyFrom_82 rfl ?_
  refine Rn.acopy dX0_copyFrom_84 ac_X0_49 (by first | rfl | exact gC1 (by assumption) | exact gC2 (by assumption) | exact gC3 (by assumption) | exact gL1 (by assumption) | exact gL2 (by assumption) | exact gL3 (by assumption) | exact gL4 (by assumption) | exact gL5 (by assumption) | exact gL6 (by assumption)) (by first | rfl | exact gC1 (by assumption) | exact gC2 (by assumption) | exact gC3 (by assumption) | exact gL1 (by assumption) | exact gL2 (by assumption) | exact gL3 (by assumption) | exact gL4 (by assumption) | exact gL5 (by assumption) | exact gL6 (by assumption)) (by decide) (by decide) (by decide) (Nat.le_of_ble_eq_true rfl) ?_
  refine Rn.aload_n dX0_copyFrom_87 rfl rfl ?_
  refine Rn.getR dX0_copyFrom_88 fd_X0_25_0 (by first | rfl | exact gC0 (by assumption) | exact gL0 (by assumption)) rfl ?_
  refine Rn.iconst (v := (nI 0)) dX0_copyFrom_91 rfl ?_
  refine Rn.aload_n dX0_copyFrom_92 rfl rfl ?_
  refine Rn.getR dX0_copyFrom_93 fd_X0_25_0 (by first | rfl | exact gC0 (by assumption) | exact gL0 (by assumption)) rfl ?_
  refine Rn.iconst (v := (nI 0)) dX0_copyFrom_96 rfl ?_
  refine Rn.bipush (v := (nI 72)) dX0_copyFrom_97 rfl ?_
  refine Rn.acopy dX0_copyFrom_99 ac_X0_49 (by first | rfl | exact gC1 (by assumption) | exact gC2 (by assumption) | exact gC3 (by assumption) | exact gL1 (by assumption) | exact gL2 (by assumption) | exact gL3 (by assumption) | exact gL4 (by assumption) | exact gL5 (by assumption) | exact gL6 (by assumption)) (by first | rfl | exact gC1 (by assumption) | exact gC2 (by assumption) | exact gC3 (by assumption) | exact gL1 (by assumption) | exact gL2 (by assumption) | exact gL3 (by assumption) | exact gL4 (by assumption) | exact gL5 (by assumption) | exact gL6 (by assumption)) (by decide) (by decide) (by decide) (Nat.le_of_ble_eq_true rfl) ?_
  refine Rn.aload_n dX0_copyFrom_102 rfl rfl ?_
  refine Rn.getR dX0_copyFrom_103 fd_X0_28_0 (by first | rfl | exact gC0 (by assumption) | exact gL0 (by assumption)) rfl ?_
  refine Rn.iconst (v := (nI 0)) dX0_copyFrom_106 rfl ?_
  refine Rn.aload_n dX0_copyFrom_107 rfl rfl ?_
  refine Rn.getR dX0_copyFrom_108 fd_X0_28_0 (by first | rfl | exact gC0 (by assumption) | exact gL0 (by assumption)) rfl ?_
  refine Rn.iconst (v := (nI 0)) dX0_copyFrom_111 rfl ?_
  refine Rn.sipush (v := (nI 240)) dX0_copyFrom_112 rfl ?_
  refine Rn.acopy dX0_copyFrom_115 ac_X0_49 (by first | rfl | exact gC1 (by assumption) | exact gC2 (by assumption) | exact gC3 (by assumption) | exact gL1 (by assumption) | exact gL2 (by assumption) | exact gL3 (by assumption) | exact gL4 (by assumption) | exact gL5 (by assumption) | exact gL6 (by assumption)) (by first | rfl | exact gC1 (by assumption) | exact gC2 (by assumption) | exact gC3 (by assumption) | exact gL1 (by assumption) | exact gL2 (by assumption) | exact gL3 (by assumption) | exact gL4 (by assumption) | exact gL5 (by assumption) | exact gL6 (by assumption)) (by decide) (by decide) (by decide) (Nat.le_of_ble_eq_true rfl) ?_
  have f9 : ∀ j, j < 9 → j = 0 ∨ j = 1 ∨ j = 2 ∨ j = 3 ∨ j = 4 ∨ j = 5 ∨ j = 6 ∨ j = 7 ∨ j = 8 := fun j hj => by omega
  exact Rn.vret dX0_copyFrom_118 rfl (⟨rfl, fun j hj => by rcases f9 j hj with rfl | rfl | rfl | rfl | rfl | rfl | rfl | rfl | rfl <;> rfl, fun j hj => by rw [zset_ne _ _ (by decide), zset_at, cpy_in hj]; first | done | rfl, fun a ha => by rw [zset_ne _ _ (by omega), zset_ne _ _ (by omega), zset_ne _ _ (by omega), zup_ne _ _ (by omega), zup_ne _ _ (by omega), zup_ne _ _ (by omega), zup_ne _ _ (by omega), zup_ne _ _ (by omega), zup_ne _ _ (by omega), zup_ne _ _ (by omega), zup_ne _ _ (by omega), zup_ne _ _ (by omega)]⟩)
theorem ct_cp3_62 (I : Hi) : Ct G GAM mX0_copyFrom d 0 [.ref 62, .ref 3] I (Rv (fun v J => v = none ∧ (∀ j, j < 9 → J 62 j = I 3 j) ∧ (∀ j, j < 72 → J 64 j = I 5 j) ∧ ∀ a, ¬ (62 ≤ a ∧ a ≤ 65) → J a = I a)) := by
  refine Ct.mk [some (.ref 62), some (.ref 3)] ?_
  refine Rn.aload_n dX0_copyFrom_0 rfl rfl ?_
  refine Rn.aload_n dX0_copyFrom_1 rfl rfl ?_
  refine Rn.getI dX0_copyFrom_2 fd_X0_31_0 (by first | rfl | exact gC0 (by assumption) | exact gL0 (by assumption)) rfl ?_
  refine Rn.putI dX0_copyFrom_5 fp_X0_31_0 (by first | rfl | exact gC0 (by assumption) | exact gL0 (by assumption)) rfl ?_
  refine Rn.aload_n dX0_copyFrom_8 rfl rfl ?_
  refine Rn.aload_n dX0_copyFrom_9 rfl rfl ?_
  refine Rn.getI dX0_copyFrom_10 fd_X0_34_0 (by first | rfl | exact gC0 (by assumption) | exact gL0 (by assumption)) rfl ?_
  refine Rn.putI dX0_copyFrom_13 fp_X0_34_0 (by first | rfl | exact gC0 (by assumption) | exact gL0 (by assumption)) rfl ?_
  refine Rn.aload_n dX0_copyFrom_16 rfl rfl ?_
  refine Rn.aload_n dX0_copyFrom_17 rfl rfl ?_
  refine Rn.getI dX0_copyFrom_18 fd_X0_37_0 (by first | rfl | exact gC0 (by assumption) | exact gL0 (by assumption)) rfl ?_
  refine Rn.putI dX0_copyFrom_21 fp_X0_37_0 (by first | rfl | exact gC0 (by assumption) | exact gL0 (by assumption)) rfl ?_
  refine Rn.aload_n dX0_copyFrom_24 rfl rfl ?_
  refine Rn.aload_n dX0_copyFrom_25 rfl rfl ?_
  refine Rn.getI dX0_copyFrom_26 fd_X0_40_0 (by first | rfl | exact gC0 (by assumption) | exact gL0 (by assumption)) rfl ?_
  refine Rn.putI dX0_copyFrom_29 fp_X0_40_0 (by first | rfl | exact gC0 (by assumption) | exact gL0 (by assumption)) rfl ?_
  refine Rn.aload_n dX0_copyFrom_32 rfl rfl ?_
  refine Rn.aload_n dX0_copyFrom_33 rfl rfl ?_
  refine Rn.getI dX0_copyFrom_34 fd_X0_9_0 (by first | rfl | exact gC0 (by assumption) | exact gL0 (by assumption)) rfl ?_
  refine Rn.putI dX0_copyFrom_37 fp_X0_9_0 (by first | rfl | exact gC0 (by assumption) | exact gL0 (by assumption)) rfl ?_
  refine Rn.aload_n dX0_copyFrom_40 rfl rfl ?_
  refine Rn.aload_n dX0_copyFrom_41 rfl rfl ?_
  refine Rn.getI dX0_copyFrom_42 fd_X0_15_0 (by first | rfl | exact gC0 (by assumption) | exact gL0 (by assumption)) rfl ?_
  refine Rn.putI dX0_copyFrom_45 fp_X0_15_0 (by first | rfl | exact gC0 (by assumption) | exact gL0 (by assumption)) rfl ?_
  refine Rn.aload_n dX0_copyFrom_48 rfl rfl ?_
  refine Rn.aload_n dX0_copyFrom_49 rfl rfl ?_
  refine Rn.getI dX0_copyFrom_50 fd_X0_18_0 (by first | rfl | exact gC0 (by assumption) | exact gL0 (by assumption)) rfl ?_
  refine Rn.putI dX0_copyFrom_53 fp_X0_18_0 (by first | rfl | exact gC0 (by assumption) | exact gL0 (by assumption)) rfl ?_
  refine Rn.aload_n dX0_copyFrom_56 rfl rfl ?_
  refine Rn.aload_n dX0_copyFrom_57 rfl rfl ?_
  refine Rn.getI dX0_copyFrom_58 fd_X0_43_0 (by first | rfl | exact gC0 (by assumption) | exact gL0 (by assumption)) rfl ?_
  refine Rn.putI dX0_copyFrom_61 fp_X0_43_0 (by first | rfl | exact gC0 (by assumption) | exact gL0 (by assumption)) rfl ?_
  refine Rn.aload_n dX0_copyFrom_64 rfl rfl ?_
  refine Rn.aload_n dX0_copyFrom_65 rfl rfl ?_
  refine Rn.getI dX0_copyFrom_66 fd_X0_46_0 (by first | rfl | exact gC0 (by assumption) | exact gL0 (by assumption)) rfl ?_
  refine Rn.putI dX0_copyFrom_69 fp_X0_46_0 (by first | rfl | exact gC0 (by assumption) | exact gL0 (by assumption)) rfl ?_
  refine Rn.aload_n dX0_copyFrom_72 rfl rfl ?_
  refine Rn.getR dX0_copyFrom_73 fd_X0_21_0 (by first | rfl | exact gC0 (by assumption) | exact gL0 (by assumption)) rfl ?_
  refine Rn.iconst (v := (nI 0)) dX0_copyFrom_76 rfl ?_
  refine Rn.aload_n dX0_copyFrom_77 rfl rfl ?_
  refine Rn.getR dX0_copyFrom_78 fd_X0_21_0 (by first | rfl | exact gC0 (by assumption) | exact gL0 (by assumption)) rfl ?_
  refine Rn.iconst (v := (nI 0)) dX0_copyFrom_81 rfl ?_
  refine Rn.bipush (v := (nI 56)) dX0_copyFrom_82 rfl ?_
  refine Rn.acopy dX0_copyFrom_84 ac_X0_49 (by first | rfl | exact gC1 (by assumption) | exact gC2 (by assumption) | exact gC3 (by assumption) | exact gL1 (by assumption) | exact gL2 (by assumption) | exact gL3 (by assumption) | exact gL4 (by assumption) | exact gL5 (by assumption) | exact gL6 (by assumption)) (by first | rfl | exact gC1 (by assumption) | exact gC2 (by assumption) | exact gC3 (by assumption) | exact gL1 (by assumption) | exact gL2 (by assumption) | exact gL3 (by assumption) | exact gL4 (by assumption) | exact gL5 (by assumption) | exact gL6 (by assumption)) (by decide) (by decide) (by decide) (Nat.le_of_ble_eq_true rfl) ?_
  refine Rn.aload_n dX0_copyFrom_87 rfl rfl ?_
  refine Rn.getR dX0_copyFrom_88 fd_X0_25_0 (by first | rfl | exact gC0 (by assumption) | exact gL0 (by assumption)) rfl ?_
  refine Rn.iconst (v := (nI 0)) dX0_copyFrom_91 rfl ?_
  refine Rn.aload_n dX0_copyFrom_92 rfl rfl ?_
  refine Rn.getR dX0_copyFrom_93 fd_X0_25_0 (by first | rfl | exact gC0 (by assumption) | exact gL0 (by assumption)) rfl ?_
  refine Rn.iconst (v := (nI 0)) dX0_copyFrom_96 rfl ?_
  refine Rn.bipush (v := (nI 72)) dX0_copyFrom_97 rfl ?_
  refine Rn.acopy dX0_copyFrom_99 ac_X0_49 (by first | rfl | exact gC1 (by assumption) | exact gC2 (by assumption) | exact gC3 (by assumption) | exact gL1 (by assumption) | exact gL2 (by assumption) | exact gL3 (by assumption) | exact gL4 (by assumption) | exact gL5 (by assumption) | exact gL6 (by assumption)) (by first | rfl | exact gC1 (by assumption) | exact gC2 (by assumption) | exact gC3 (by assumption) | exact gL1 (by assumption) | exact gL2 (by assumption) | exact gL3 (by assumption) | exact gL4 (by assumption) | exact gL5 (by assumption) | exact gL6 (by assumption)) (by decide) (by decide) (by decide) (Nat.le_of_ble_eq_true rfl) ?_
  refine Rn.aload_n dX0_copyFrom_102 rfl rfl ?_
  refine Rn.getR dX0_copyFrom_103 fd_X0_28_0 (by first | rfl | exact gC0 (by assumption) | exact gL0 (by assumption)) rfl ?_
  refine Rn.iconst (v := (nI 0)) dX0_copyFrom_106 rfl ?_
  refine Rn.aload_n dX0_copyFrom_107 rfl rfl ?_
  refine Rn.getR dX0_copyFrom_108 fd_X0_28_0 (by first | rfl | exact gC0 (by assumption) | exact gL0 (by assumption)) rfl ?_
  refine Rn.iconst (v := (nI 0)) dX0_copyFrom_111 rfl ?_
  refine Rn.sipush (v := (nI 240)) dX0_copyFrom_112 rfl ?_
  refine Rn.acopy dX0_copyFrom_115 ac_X0_49 (by first | rfl | exact gC1 (by assumption) | exact gC2 (by assumption) | exact gC3 (by assumption) | exact gL1 (by assumption) | exact gL2 (by assumption) | exact gL3 (by assumption) | exact gL4 (by assumption) | exact gL5 (by assumption) | exact gL6 (by assumption)) (by first | rfl | exact gC1 (by assumption) | exact gC2 (by assumption) | exact gC3 (by assumption) | exact gL1 (by assumption) | exact gL2 (by assumption) | exact gL3 (by assumption) | exact gL4 (by assumption) | exact gL5 (by assumption) | exact gL6 (by assumption)) (by decide) (by decide) (by decide) (Nat.le_of_ble_eq_true rfl) ?_
  have f9 : ∀ j, j < 9 → j = 0 ∨ j = 1 ∨ j = 2 ∨ j = 3 ∨ j = 4 ∨ j = 5 ∨ j = 6 ∨ j = 7 ∨ j = 8 := fun j hj => by omega
  exact Rn.vret dX0_copyFrom_118 rfl (⟨rfl, fun j hj => by rcases f9 j hj with rfl | rfl | rfl | rfl | rfl | rfl | rfl | rfl | rfl <;> rfl, fun j hj => by rw [zset_ne _ _ (by decide), zset_at, cpy_in hj]; first | done | rfl, fun a ha => by rw [zset_ne _ _ (by omega), zset_ne _ _ (by omega), zset_ne _ _ (by omega), zup_ne _ _ (by omega), zup_ne _ _ (by omega), zup_ne _ _ (by omega), zup_ne _ _ (by omega), zup_ne _ _ (by omega), zup_ne _ _ (by omega), zup_ne _ _ (by omega), zup_ne _ _ (by omega), zup_ne _ _ (by omega)]⟩)
theorem ct_cp3_66 (I : Hi) : Ct G GAM mX0_copyFrom d 0 [.ref 66, .ref 3] I (Rv (fun v J => v = none ∧ (∀ j, j < 9 → J 66 j = I 3 j) ∧ (∀ j, j < 72 → J 68 j = I 5 j) ∧ ∀ a, ¬ (66 ≤ a ∧ a ≤ 69) → J a = I a)) := by
  refine Ct.mk [some (.ref 66), some (.ref 3)] ?_
  refine Rn.aload_n dX0_copyFrom_0 rfl rfl ?_
  refine Rn.aload_n dX0_copyFrom_1 rfl rfl ?_
  refine Rn.getI dX0_copyFrom_2 fd_X0_31_0 (by first | rfl | exact gC0 (by assumption) | exact gL0 (by assumption)) rfl ?_
  refine Rn.putI dX0_copyFrom_5 fp_X0_31_0 (by first | rfl | exact gC0 (by assumption) | exact gL0 (by assumption)) rfl ?_
  refine Rn.aload_n dX0_copyFrom_8 rfl rfl ?_
  refine Rn.aload_n dX0_copyFrom_9 rfl rfl ?_
  refine Rn.getI dX0_copyFrom_10 fd_X0_34_0 (by first | rfl | exact gC0 (by assumption) | exact gL0 (by assumption)) rfl ?_
  refine Rn.putI dX0_copyFrom_13 fp_X0_34_0 (by first | rfl | exact gC0 (by assumption) | exact gL0 (by assumption)) rfl ?_
  refine Rn.aload_n dX0_copyFrom_16 rfl rfl ?_
  refine Rn.aload_n dX0_copyFrom_17 rfl rfl ?_
  refine Rn.getI dX0_copyFrom_18 fd_X0_37_0 (by first | rfl | exact gC0 (by assumption) | exact gL0 (by assumption)) rfl ?_
  refine Rn.putI dX0_copyFrom_21 fp_X0_37_0 (by first | rfl | exact gC0 (by assumption) | exact gL0 (by assumption)) rfl ?_
  refine Rn.aload_n dX0_copyFrom_24 rfl rfl ?_
  refine Rn.aload_n dX0_copyFrom_25 rfl rfl ?_
  refine Rn.getI dX0_copyFrom_26 fd_X0_40_0 (by first | rfl | exact gC0 (by assumption) | exact gL0 (by assumption)) rfl ?_
  refine Rn.putI dX0_copyFrom_29 fp_X0_40_0 (by first | rfl | exact gC0 (by assumption) | exact gL0 (by assumption)) rfl ?_
  refine Rn.aload_n dX0_copyFrom_32 rfl rfl ?_
  refine Rn.aload_n dX0_copyFrom_33 rfl rfl ?_
  refine Rn.getI dX0_copyFrom_34 fd_X0_9_0 (by first | rfl | exact gC0 (by assumption) | exact gL0 (by assumption)) rfl ?_
  refine Rn.putI dX0_copyFrom_37 fp_X0_9_0 (by first | rfl | exact gC0 (by assumption) | exact gL0 (by assumption)) rfl ?_
  refine Rn.aload_n dX0_copyFrom_40 rfl rfl ?_
  refine Rn.aload_n dX0_copyFrom_41 rfl rfl ?_
  refine Rn.getI dX0_copyFrom_42 fd_X0_15_0 (by first | rfl | exact gC0 (by assumption) | exact gL0 (by assumption)) rfl ?_
  refine Rn.putI dX0_copyFrom_45 fp_X0_15_0 (by first | rfl | exact gC0 (by assumption) | exact gL0 (by assumption)) rfl ?_
  refine Rn.aload_n dX0_copyFrom_48 rfl rfl ?_
  refine Rn.aload_n dX0_copyFrom_49 rfl rfl ?_
  refine Rn.getI dX0_copyFrom_50 fd_X0_18_0 (by first | rfl | exact gC0 (by assumption) | exact gL0 (by assumption)) rfl ?_
  refine Rn.putI dX0_copyFrom_53 fp_X0_18_0 (by first | rfl | exact gC0 (by assumption) | exact gL0 (by assumption)) rfl ?_
  refine Rn.aload_n dX0_copyFrom_56 rfl rfl ?_
  refine Rn.aload_n dX0_copyFrom_57 rfl rfl ?_
  refine Rn.getI dX0_copyFrom_58 fd_X0_43_0 (by first | rfl | exact gC0 (by assumption) | exact gL0 (by assumption)) rfl ?_
  refine Rn.putI dX0_copyFrom_61 fp_X0_43_0 (by first | rfl | exact gC0 (by assumption) | exact gL0 (by assumption)) rfl ?_
  refine Rn.aload_n dX0_copyFrom_64 rfl rfl ?_
  refine Rn.aload_n dX0_copyFrom_65 rfl rfl ?_
  refine Rn.getI dX0_copyFrom_66 fd_X0_46_0 (by first | rfl | exact gC0 (by assumption) | exact gL0 (by assumption)) rfl ?_
  refine Rn.putI dX0_copyFrom_69 fp_X0_46_0 (by first | rfl | exact gC0 (by assumption) | exact gL0 (by assumption)) rfl ?_
  refine Rn.aload_n dX0_copyFrom_72 rfl rfl ?_
  refine Rn.getR dX0_copyFrom_73 fd_X0_21_0 (by first | rfl | exact gC0 (by assumption) | exact gL0 (by assumption)) rfl ?_
  refine Rn.iconst (v := (nI 0)) dX0_copyFrom_76 rfl ?_
  refine Rn.aload_n dX0_copyFrom_77 rfl rfl ?_
  refine Rn.getR dX0_copyFrom_78 fd_X0_21_0 (by first | rfl | exact gC0 (by assumption) | exact gL0 (by assumption)) rfl ?_
  refine Rn.iconst (v := (nI 0)) dX0_copyFrom_81 rfl ?_
  refine Rn.bipush (v := (nI 56)) dX0_copyFrom_82 rfl ?_
  refine Rn.acopy dX0_copyFrom_84 ac_X0_49 (by first | rfl | exact gC1 (by assumption) | exact gC2 (by assumption) | exact gC3 (by assumption) | exact gL1 (by assumption) | exact gL2 (by assumption) | exact gL3 (by assumption) | exact gL4 (by assumption) | exact gL5 (by assumption) | exact gL6 (by assumption)) (by first | rfl | exact gC1 (by assumption) | exact gC2 (by assumption) | exact gC3 (by assumption) | exact gL1 (by assumption) | exact gL2 (by assumption) | exact gL3 (by assumption) | exact gL4 (by assumption) | exact gL5 (by assumption) | exact gL6 (by assumption)) (by decide) (by decide) (by decide) (Nat.le_of_ble_eq_true rfl) ?_
  refine Rn.aload_n dX0_copyFrom_87 rfl rfl ?_
  refine Rn.getR dX0_copyFrom_88 fd_X0_25_0 (by first | rfl | exact gC0 (by assumption) | exact gL0 (by assumption)) rfl ?_
  refine Rn.iconst (v := (nI 0)) dX0_copyFrom_91 rfl ?_
  refine Rn.aload_n dX0_copyFrom_92 rfl rfl ?_
  refine Rn.getR dX0_copyFrom_93 fd_X0_25_0 (by first | rfl | exact gC0 (by assumption) | exact gL0 (by assumption)) rfl ?_
  refine Rn.iconst (v := (nI 0)) dX0_copyFrom_96 rfl ?_
  refine Rn.bipush (v := (nI 72)) dX0_copyFrom_97 rfl ?_
  refine Rn.acopy dX0_copyFrom_99 ac_X0_49 (by first | rfl | exact gC1 (by assumption) | exact gC2 (by assumption) | exact gC3 (by assumption) | exact gL1 (by assumption) | exact gL2 (by assumption) | exact gL3 (by assumption) | exact gL4 (by assumption) | exact gL5 (by assumption) | exact gL6 (by assumption)) (by first | rfl | exact gC1 (by assumption) | exact gC2 (by assumption) | exact gC3 (by assumption) | exact gL1 (by assumption) | exact gL2 (by assumption) | exact gL3 (by assumption) | exact gL4 (by assumption) | exact gL5 (by assumption) | exact gL6 (by assumption)) (by decide) (by decide) (by decide) (Nat.le_of_ble_eq_true rfl) ?_
  refine Rn.aload_n dX0_copyFrom_102 rfl rfl ?_
  refine Rn.getR dX0_copyFrom_103 fd_X0_28_0 (by first | rfl | exact gC0 (by assumption) | exact gL0 (by assumption)) rfl ?_
  refine Rn.iconst (v := (nI 0)) dX0_copyFrom_106 rfl ?_
  refine Rn.aload_n dX0_copyFrom_107 rfl rfl ?_
  refine Rn.getR dX0_copyFrom_108 fd_X0_28_0 (by first | rfl | exact gC0 (by assumption) | exact gL0 (by assumption)) rfl ?_
  refine Rn.iconst (v := (nI 0)) dX0_copyFrom_111 rfl ?_
  refine Rn.sipush (v := (nI 240)) dX0_copyFrom_112 rfl ?_
  refine Rn.acopy dX0_copyFrom_115 ac_X0_49 (by first | rfl | exact gC1 (by assumption) | exact gC2 (by assumption) | exact gC3 (by assumption) | exact gL1 (by assumption) | exact gL2 (by assumption) | exact gL3 (by assumption) | exact gL4 (by assumption) | exact gL5 (by assumption) | exact gL6 (by assumption)) (by first | rfl | exact gC1 (by assumption) | exact gC2 (by assumption) | exact gC3 (by assumption) | exact gL1 (by assumption) | exact gL2 (by assumption) | exact gL3 (by assumption) | exact gL4 (by assumption) | exact gL5 (by assumption) | exact gL6 (by assumption)) (by decide) (by decide) (by decide) (Nat.le_of_ble_eq_true rfl) ?_
  have f9 : ∀ j, j < 9 → j = 0 ∨ j = 1 ∨ j = 2 ∨ j = 3 ∨ j = 4 ∨ j = 5 ∨ j = 6 ∨ j = 7 ∨ j = 8 := fun j hj => by omega
  exact Rn.vret dX0_copyFrom_118 rfl (⟨rfl, fun j hj => by rcases f9 j hj with rfl | rfl | rfl | rfl | rfl | rfl | rfl | rfl | rfl <;> rfl, fun j hj => by rw [zset_ne _ _ (by decide), zset_at, cpy_in hj]; first | done | rfl, fun a ha => by rw [zset_ne _ _ (by omega), zset_ne _ _ (by omega), zset_ne _ _ (by omega), zup_ne _ _ (by omega), zup_ne _ _ (by omega), zup_ne _ _ (by omega), zup_ne _ _ (by omega), zup_ne _ _ (by omega), zup_ne _ _ (by omega), zup_ne _ _ (by omega), zup_ne _ _ (by omega), zup_ne _ _ (by omega)]⟩)
theorem ct_cp3_70 (I : Hi) : Ct G GAM mX0_copyFrom d 0 [.ref 70, .ref 3] I (Rv (fun v J => v = none ∧ (∀ j, j < 9 → J 70 j = I 3 j) ∧ (∀ j, j < 72 → J 72 j = I 5 j) ∧ ∀ a, ¬ (70 ≤ a ∧ a ≤ 73) → J a = I a)) := by
  refine Ct.mk [some (.ref 70), some (.ref 3)] ?_
  refine Rn.aload_n dX0_copyFrom_0 rfl rfl ?_
  refine Rn.aload_n dX0_copyFrom_1 rfl rfl ?_
  refine Rn.getI dX0_copyFrom_2 fd_X0_31_0 (by first | rfl | exact gC0 (by assumption) | exact gL0 (by assumption)) rfl ?_
  refine Rn.putI dX0_copyFrom_5 fp_X0_31_0 (by first | rfl | exact gC0 (by assumption) | exact gL0 (by assumption)) rfl ?_
  refine Rn.aload_n dX0_copyFrom_8 rfl rfl ?_
  refine Rn.aload_n dX0_copyFrom_9 rfl rfl ?_
  refine Rn.getI dX0_copyFrom_10 fd_X0_34_0 (by first | rfl | exact gC0 (by assumption) | exact gL0 (by assumption)) rfl ?_
  refine Rn.putI dX0_copyFrom_13 fp_X0_34_0 (by first | rfl | exact gC0 (by assumption) | exact gL0 (by assumption)) rfl ?_
  refine Rn.aload_n dX0_copyFrom_16 rfl rfl ?_
  refine Rn.aload_n dX0_copyFrom_17 rfl rfl ?_
  refine Rn.getI dX0_copyFrom_18 fd_X0_37_0 (by first | rfl | exact gC0 (by assumption) | exact gL0 (by assumption)) rfl ?_
  refine Rn.putI dX0_copyFrom_21 fp_X0_37_0 (by first | rfl | exact gC0 (by assumption) | exact gL0 (by assumption)) rfl ?_
  refine Rn.aload_n dX0_copyFrom_24 rfl rfl ?_
  refine Rn.aload_n dX0_copyFrom_25 rfl rfl ?_
  refine Rn.getI dX0_copyFrom_26 fd_X0_40_0 (by first | rfl | exact gC0 (by assumption) | exact gL0 (by assumption)) rfl ?_
  refine Rn.putI dX0_copyFrom_29 fp_X0_40_0 (by first | rfl | exact gC0 (by assumption) | exact gL0 (by assumption)) rfl ?_
  refine Rn.aload_n dX0_copyFrom_32 rfl rfl ?_
  refine Rn.aload_n dX0_copyFrom_33 rfl rfl ?_
  refine Rn.getI dX0_copyFrom_34 fd_X0_9_0 (by first | rfl | exact gC0 (by assumption) | exact gL0 (by assumption)) rfl ?_
  refine Rn.putI dX0_copyFrom_37 fp_X0_9_0 (by first | rfl | exact gC0 (by assumption) | exact gL0 (by assumption)) rfl ?_
  refine Rn.aload_n dX0_copyFrom_40 rfl rfl ?_
  refine Rn.aload_n dX0_copyFrom_41 rfl rfl ?_
  refine Rn.getI dX0_copyFrom_42 fd_X0_15_0 (by first | rfl | exact gC0 (by assumption) | exact gL0 (by assumption)) rfl ?_
  refine Rn.putI dX0_copyFrom_45 fp_X0_15_0 (by first | rfl | exact gC0 (by assumption) | exact gL0 (by assumption)) rfl ?_
  refine Rn.aload_n dX0_copyFrom_48 rfl rfl ?_
  refine Rn.aload_n dX0_copyFrom_49 rfl rfl ?_
  refine Rn.getI dX0_copyFrom_50 fd_X0_18_0 (by first | rfl | exact gC0 (by assumption) | exact gL0 (by assumption)) rfl ?_
  refine Rn.putI dX0_copyFrom_53 fp_X0_18_0 (by first | rfl | exact gC0 (by assumption) | exact gL0 (by assumption)) rfl ?_
  refine Rn.aload_n dX0_copyFrom_56 rfl rfl ?_
  refine Rn.aload_n dX0_copyFrom_57 rfl rfl ?_
  refine Rn.getI dX0_copyFrom_58 fd_X0_43_0 (by first | rfl | exact gC0 (by assumption) | exact gL0 (by assumption)) rfl ?_
  refine Rn.putI dX0_copyFrom_61 fp_X0_43_0 (by first | rfl | exact gC0 (by assumption) | exact gL0 (by assumption)) rfl ?_
  refine Rn.aload_n dX0_copyFrom_64 rfl rfl ?_
  refine Rn.aload_n dX0_copyFrom_65 rfl rfl ?_
  refine Rn.getI dX0_copyFrom_66 fd_X0_46_0 (by first | rfl | exact gC0 (by assumption) | exact gL0 (by assumption)) rfl ?_
  refine Rn.putI dX0_copyFrom_69 fp_X0_46_0 (by first | rfl | exact gC0 (by assumption) | exact gL0 (by assumption)) rfl ?_
  refine Rn.aload_n dX0_copyFrom_72 rfl rfl ?_
  refine Rn.getR dX0_copyFrom_73 fd_X0_21_0 (by first | rfl | exact gC0 (by assumption) | exact gL0 (by assumption)) rfl ?_
  refine Rn.iconst (v := (nI 0)) dX0_copyFrom_76 rfl ?_
  refine Rn.aload_n dX0_copyFrom_77 rfl rfl ?_
  refine Rn.getR dX0_copyFrom_78 fd_X0_21_0 (by first | rfl | exact gC0 (by assumption) | exact gL0 (by assumption)) rfl ?_
  refine Rn.iconst (v := (nI 0)) dX0_copyFrom_81 rfl ?_
  refine Rn.bipush (v := (nI 56)) dX0_copyFrom_82 rfl ?_
  refine Rn.acopy dX0_copyFrom_84 ac_X0_49 (by first | rfl | exact gC1 (by assumption) | exact gC2 (by assumption) | exact gC3 (by assumption) | exact gL1 (by assumption) | exact gL2 (by assumption) | exact gL3 (by assumption) | exact gL4 (by assumption) | exact gL5 (by assumption) | exact gL6 (by assumption)) (by first | rfl | exact gC1 (by assumption) | exact gC2 (by assumption) | exact gC3 (by assumption) | exact gL1 (by assumption) | exact gL2 (by assumption) | exact gL3 (by assumption) | exact gL4 (by assumption) | exact gL5 (by assumption) | exact gL6 (by assumption)) (by decide) (by decide) (by decide) (Nat.le_of_ble_eq_true rfl) ?_
  refine Rn.aload_n dX0_copyFrom_87 rfl rfl ?_
  refine Rn.getR dX0_copyFrom_88 fd_X0_25_0 (by first | rfl | exact gC0 (by assumption) | exact gL0 (by assumption)) rfl ?_
  refine Rn.iconst (v := (nI 0)) dX0_copyFrom_91 rfl ?_
  refine Rn.aload_n dX0_copyFrom_92 rfl rfl ?_
  refine Rn.getR dX0_copyFrom_93 fd_X0_25_0 (by first | rfl | exact gC0 (by assumption) | exact gL0 (by assumption)) rfl ?_
  refine Rn.iconst (v := (nI 0)) dX0_copyFrom_96 rfl ?_
  refine Rn.bipush (v := (nI 72)) dX0_copyFrom_97 rfl ?_
  refine Rn.acopy dX0_copyFrom_99 ac_X0_49 (by first | rfl | exact gC1 (by assumption) | exact gC2 (by assumption) | exact gC3 (by assumption) | exact gL1 (by assumption) | exact gL2 (by assumption) | exact gL3 (by assumption) | exact gL4 (by assumption) | exact gL5 (by assumption) | exact gL6 (by assumption)) (by first | rfl | exact gC1 (by assumption) | exact gC2 (by assumption) | exact gC3 (by assumption) | exact gL1 (by assumption) | exact gL2 (by assumption) | exact gL3 (by assumption) | exact gL4 (by assumption) | exact gL5 (by assumption) | exact gL6 (by assumption)) (by decide) (by decide) (by decide) (Nat.le_of_ble_eq_true rfl) ?_
  refine Rn.aload_n dX0_copyFrom_102 rfl rfl ?_
  refine Rn.getR dX0_copyFrom_103 fd_X0_28_0 (by first | rfl | exact gC0 (by assumption) | exact gL0 (by assumption)) rfl ?_
  refine Rn.iconst (v := (nI 0)) dX0_copyFrom_106 rfl ?_
  refine Rn.aload_n dX0_copyFrom_107 rfl rfl ?_
  refine Rn.getR dX0_copyFrom_108 fd_X0_28_0 (by first | rfl | exact gC0 (by assumption) | exact gL0 (by assumption)) rfl ?_
  refine Rn.iconst (v := (nI 0)) dX0_copyFrom_111 rfl ?_
  refine Rn.sipush (v := (nI 240)) dX0_copyFrom_112 rfl ?_
  refine Rn.acopy dX0_copyFrom_115 ac_X0_49 (by first | rfl | exact gC1 (by assumption) | exact gC2 (by assumption) | exact gC3 (by assumption) | exact gL1 (by assumption) | exact gL2 (by assumption) | exact gL3 (by assumption) | exact gL4 (by assumption) | exact gL5 (by assumption) | exact gL6 (by assumption)) (by first | rfl | exact gC1 (by assumption) | exact gC2 (by assumption) | exact gC3 (by assumption) | exact gL1 (by assumption) | exact gL2 (by assumption) | exact gL3 (by assumption) | exact gL4 (by assumption) | exact gL5 (by assumption) | exact gL6 (by assumption)) (by decide) (by decide) (by decide) (Nat.le_of_ble_eq_true rfl) ?_
  have f9 : ∀ j, j < 9 → j = 0 ∨ j = 1 ∨ j = 2 ∨ j = 3 ∨ j = 4 ∨ j = 5 ∨ j = 6 ∨ j = 7 ∨ j = 8 := fun j hj => by omega
  exact Rn.vret dX0_copyFrom_118 rfl (⟨rfl, fun j hj => by rcases f9 j hj with rfl | rfl | rfl | rfl | rfl | rfl | rfl | rfl | rfl <;> rfl, fun j hj => by rw [zset_ne _ _ (by decide), zset_at, cpy_in hj]; first | done | rfl, fun a ha => by rw [zset_ne _ _ (by omega), zset_ne _ _ (by omega), zset_ne _ _ (by omega), zup_ne _ _ (by omega), zup_ne _ _ (by omega), zup_ne _ _ (by omega), zup_ne _ _ (by omega), zup_ne _ _ (by omega), zup_ne _ _ (by omega), zup_ne _ _ (by omega), zup_ne _ _ (by omega), zup_ne _ _ (by omega)]⟩)
theorem ct_cp3_74 (I : Hi) : Ct G GAM mX0_copyFrom d 0 [.ref 74, .ref 3] I (Rv (fun v J => v = none ∧ (∀ j, j < 9 → J 74 j = I 3 j) ∧ (∀ j, j < 72 → J 76 j = I 5 j) ∧ ∀ a, ¬ (74 ≤ a ∧ a ≤ 77) → J a = I a)) := by
  refine Ct.mk [some (.ref 74), some (.ref 3)] ?_
  refine Rn.aload_n dX0_copyFrom_0 rfl rfl ?_
  refine Rn.aload_n dX0_copyFrom_1 rfl rfl ?_
  refine Rn.getI dX0_copyFrom_2 fd_X0_31_0 (by first | rfl | exact gC0 (by assumption) | exact gL0 (by assumption)) rfl ?_
  refine Rn.putI dX0_copyFrom_5 fp_X0_31_0 (by first | rfl | exact gC0 (by assumption) | exact gL0 (by assumption)) rfl ?_
  refine Rn.aload_n dX0_copyFrom_8 rfl rfl ?_
  refine Rn.aload_n dX0_copyFrom_9 rfl rfl ?_
  refine Rn.getI dX0_copyFrom_10 fd_X0_34_0 (by first | rfl | exact gC0 (by assumption) | exact gL0 (by assumption)) rfl ?_
  refine Rn.putI dX0_copyFrom_13 fp_X0_34_0 (by first | rfl | exact gC0 (by assumption) | exact gL0 (by assumption)) rfl ?_
  refine Rn.aload_n dX0_copyFrom_16 rfl rfl ?_
  refine Rn.aload_n dX0_copyFrom_17 rfl rfl ?_
  refine Rn.getI dX0_copyFrom_18 fd_X0_37_0 (by first | rfl | exact gC0 (by assumption) | exact gL0 (by assumption)) rfl ?_
  refine Rn.putI dX0_copyFrom_21 fp_X0_37_0 (by first | rfl | exact gC0 (by assumption) | exact gL0 (by assumption)) rfl ?_
  refine Rn.aload_n dX0_copyFrom_24 rfl rfl ?_
  refine Rn.aload_n dX0_copyFrom_25 rfl rfl ?_
  refine Rn.getI dX0_copyFrom_26 fd_X0_40_0 (by first | rfl | exact gC0 (by assumption) | exact gL0 (by assumption)) rfl ?_
  refine Rn.putI dX0_copyFrom_29 fp_X0_40_0 (by first | rfl | exact gC0 (by assumption) | exact gL0 (by assumption)) rfl ?_
  refine Rn.aload_n dX0_copyFrom_32 rfl rfl ?_
  refine Rn.aload_n dX0_copyFrom_33 rfl rfl ?_
  refine Rn.getI dX0_copyFrom_34 fd_X0_9_0 (by first | rfl | exact gC0 (by assumption) | exact gL0 (by assumption)) rfl ?_
  refine Rn.putI dX0_copyFrom_37 fp_X0_9_0 (by first | rfl | exact gC0 (by assumption) | exact gL0 (by assumption)) rfl ?_
  refine Rn.aload_n dX0_copyFrom_40 rfl rfl ?_
  refine Rn.aload_n dX0_copyFrom_41 rfl rfl ?_
  refine Rn.getI dX0_copyFrom_42 fd_X0_15_0 (by first | rfl | exact gC0 (by assumption) | exact gL0 (by assumption)) rfl ?_
  refine Rn.putI dX0_copyFrom_45 fp_X0_15_0 (by first | rfl | exact gC0 (by assumption) | exact gL0 (by assumption)) rfl ?_
  refine Rn.aload_n dX0_copyFrom_48 rfl rfl ?_
  refine Rn.aload_n dX0_copyFrom_49 rfl rfl ?_
  refine Rn.getI dX0_copyFrom_50 fd_X0_18_0 (by first | rfl | exact gC0 (by assumption) | exact gL0 (by assumption)) rfl ?_
  refine Rn.putI dX0_copyFrom_53 fp_X0_18_0 (by first | rfl | exact gC0 (by assumption) | exact gL0 (by assumption)) rfl ?_
  refine Rn.aload_n dX0_copyFrom_56 rfl rfl ?_
  refine Rn.aload_n dX0_copyFrom_57 rfl rfl ?_
  refine Rn.getI dX0_copyFrom_58 fd_X0_43_0 (by first | rfl | exact gC0 (by assumption) | exact gL0 (by assumption)) rfl ?_
  refine Rn.putI dX0_copyFrom_61 fp_X0_43_0 (by first | rfl | exact gC0 (by assumption) | exact gL0 (by assumption)) rfl ?_
  refine Rn.aload_n dX0_copyFrom_64 rfl rfl ?_
  refine Rn.aload_n dX0_copyFrom_65 rfl rfl ?_
  refine Rn.getI dX0_copyFrom_66 fd_X0_46_0 (by first | rfl | exact gC0 (by assumption) | exact gL0 (by assumption)) rfl ?_
  refine Rn.putI dX0_copyFrom_69 fp_X0_46_0 (by first | rfl | exact gC0 (by assumption) | exact gL0 (by assumption)) rfl ?_
  refine Rn.aload_n dX0_copyFrom_72 rfl rfl ?_
  refine Rn.getR dX0_copyFrom_73 fd_X0_21_0 (by first | rfl | exact gC0 (by assumption) | exact gL0 (by assumption)) rfl ?_
  refine Rn.iconst (v := (nI 0)) dX0_copyFrom_76 rfl ?_
  refine Rn.aload_n dX0_copyFrom_77 rfl rfl ?_
  refine Rn.getR dX0_copyFrom_78 fd_X0_21_0 (by first | rfl | exact gC0 (by assumption) | exact gL0 (by assumption)) rfl ?_
  refine Rn.iconst (v := (nI 0)) dX0_copyFrom_81 rfl ?_
  refine Rn.bipush (v := (nI 56)) dX0_copyFrom_82 rfl ?_
  refine Rn.acopy dX0_copyFrom_84 ac_X0_49 (by first | rfl | exact gC1 (by assumption) | exact gC2 (by assumption) | exact gC3 (by assumption) | exact gL1 (by assumption) | exact gL2 (by assumption) | exact gL3 (by assumption) | exact gL4 (by assumption) | exact gL5 (by assumption) | exact gL6 (by assumption)) (by first | rfl | exact gC1 (by assumption) | exact gC2 (by assumption) | exact gC3 (by assumption) | exact gL1 (by assumption) | exact gL2 (by assumption) | exact gL3 (by assumption) | exact gL4 (by assumption) | exact gL5 (by assumption) | exact gL6 (by assumption)) (by decide) (by decide) (by decide) (Nat.le_of_ble_eq_true rfl) ?_
  refine Rn.aload_n dX0_copyFrom_87 rfl rfl ?_
  refine Rn.getR dX0_copyFrom_88 fd_X0_25_0 (by first | rfl | exact gC0 (by assumption) | exact gL0 (by assumption)) rfl ?_
  refine Rn.iconst (v := (nI 0)) dX0_copyFrom_91 rfl ?_
  refine Rn.aload_n dX0_copyFrom_92 rfl rfl ?_
  refine Rn.getR dX0_copyFrom_93 fd_X0_25_0 (by first | rfl | exact gC0 (by assumption) | exact gL0 (by assumption)) rfl ?_
  refine Rn.iconst (v := (nI 0)) dX0_copyFrom_96 rfl ?_
  refine Rn.bipush (v := (nI 72)) dX0_copyFrom_97 rfl ?_
  refine Rn.acopy dX0_copyFrom_99 ac_X0_49 (by first | rfl | exact gC1 (by assumption) | exact gC2 (by assumption) | exact gC3 (by assumption) | exact gL1 (by assumption) | exact gL2 (by assumption) | exact gL3 (by assumption) | exact gL4 (by assumption) | exact gL5 (by assumption) | exact gL6 (by assumption)) (by first | rfl | exact gC1 (by assumption) | exact gC2 (by assumption) | exact gC3 (by assumption) | exact gL1 (by assumption) | exact gL2 (by assumption) | exact gL3 (by assumption) | exact gL4 (by assumption) | exact gL5 (by assumption) | exact gL6 (by assumption)) (by decide) (by decide) (by decide) (Nat.le_of_ble_eq_true rfl) ?_
  refine Rn.aload_n dX0_copyFrom_102 rfl rfl ?_
  refine Rn.getR dX0_copyFrom_103 fd_X0_28_0 (by first | rfl | exact gC0 (by assumption) | exact gL0 (by assumption)) rfl ?_
  refine Rn.iconst (v := (nI 0)) dX0_copyFrom_106 rfl ?_
  refine Rn.aload_n dX0_copyFrom_107 rfl rfl ?_
  refine Rn.getR dX0_copyFrom_108 fd_X0_28_0 (by first | rfl | exact gC0 (by assumption) | exact gL0 (by assumption)) rfl ?_
  refine Rn.iconst (v := (nI 0)) dX0_copyFrom_111 rfl ?_
  refine Rn.sipush (v := (nI 240)) dX0_copyFrom_112 rfl ?_
  refine Rn.acopy dX0_copyFrom_115 ac_X0_49 (by first | rfl | exact gC1 (by assumption) | exact gC2 (by assumption) | exact gC3 (by assumption) | exact gL1 (by assumption) | exact gL2 (by assumption) | exact gL3 (by assumption) | exact gL4 (by assumption) | exact gL5 (by assumption) | exact gL6 (by assumption)) (by first | rfl | exact gC1 (by assumption) | exact gC2 (by assumption) | exact gC3 (by assumption) | exact gL1 (by assumption) | exact gL2 (by assumption) | exact gL3 (by assumption) | exact gL4 (by assumption) | exact gL5 (by assumption) | exact gL6 (by assumption)) (by decide) (by decide) (by decide) (Nat.le_of_ble_eq_true rfl) ?_
  have f9 : ∀ j, j < 9 → j = 0 ∨ j = 1 ∨ j = 2 ∨ j = 3 ∨ j = 4 ∨ j = 5 ∨ j = 6 ∨ j = 7 ∨ j = 8 := fun j hj => by omega
  exact Rn.vret dX0_copyFrom_118 rfl (⟨rfl, fun j hj => by rcases f9 j hj with rfl | rfl | rfl | rfl | rfl | rfl | rfl | rfl | rfl <;> rfl, fun j hj => by rw [zset_ne _ _ (by decide), zset_at, cpy_in hj]; first | done | rfl, fun a ha => by rw [zset_ne _ _ (by omega), zset_ne _ _ (by omega), zset_ne _ _ (by omega), zup_ne _ _ (by omega), zup_ne _ _ (by omega), zup_ne _ _ (by omega), zup_ne _ _ (by omega), zup_ne _ _ (by omega), zup_ne _ _ (by omega), zup_ne _ _ (by omega), zup_ne _ _ (by omega), zup_ne _ _ (by omega)]⟩)
theorem ct_cp3_78 (I : Hi) : Ct G GAM mX0_copyFrom d 0 [.ref 78, .ref 3] I (Rv (fun v J => v = none ∧ (∀ j, j < 9 → J 78 j = I 3 j) ∧ (∀ j, j < 72 → J 80 j = I 5 j) ∧ ∀ a, ¬ (78 ≤ a ∧ a ≤ 81) → J a = I a)) := by
  refine Ct.mk [some (.ref 78), some (.ref 3)] ?_
  refine Rn.aload_n dX0_copyFrom_0 rfl rfl ?_
  refine Rn.aload_n dX0_copyFrom_1 rfl rfl ?_
  refine Rn.getI dX0_copyFrom_2 fd_X0_31_0 (by first | rfl | exact gC0 (by assumption) | exact gL0 (by assumption)) rfl ?_
  refine Rn.putI dX0_copyFrom_5 fp_X0_31_0 (by first | rfl | exact gC0 (by assumption) | exact gL0 (by assumption)) rfl ?_
  refine Rn.aload_n dX0_copyFrom_8 rfl rfl ?_
  refine Rn.aload_n dX0_copyFrom_9 rfl rfl ?_
  refine Rn.getI dX0_copyFrom_10 fd_X0_34_0 (by first | rfl | exact gC0 (by assumption) | exact gL0 (by assumption)) rfl ?_
  refine Rn.putI dX0_copyFrom_13 fp_X0_34_0 (by first | rfl | exact gC0 (by assumption) | exact gL0 (by assumption)) rfl ?_
  refine Rn.aload_n dX0_copyFrom_16 rfl rfl ?_
  refine Rn.aload_n dX0_copyFrom_17 rfl rfl ?_
  refine Rn.getI dX0_copyFrom_18 fd_X0_37_0 (by first | rfl | exact gC0 (by assumption) | exact gL0 (by assumption)) rfl ?_
  refine Rn.putI dX0_copyFrom_21 fp_X0_37_0 (by first | rfl | exact gC0 (by assumption) | exact gL0 (by assumption)) rfl ?_
  refine Rn.aload_n dX0_copyFrom_24 rfl rfl ?_
  refine Rn.aload_n dX0_copyFrom_25 rfl rfl ?_
  refine Rn.getI dX0_copyFrom_26 fd_X0_40_0 (by first | rfl | exact gC0 (by assumption) | exact gL0 (by assumption)) rfl ?_
  refine Rn.putI dX0_copyFrom_29 fp_X0_40_0 (by first | rfl | exact gC0 (by assumption) | exact gL0 (by assumption)) rfl ?_
  refine Rn.aload_n dX0_copyFrom_32 rfl rfl ?_
  refine Rn.aload_n dX0_copyFrom_33 rfl rfl ?_
  refine Rn.getI dX0_copyFrom_34 fd_X0_9_0 (by first | rfl | exact gC0 (by assumption) | exact gL0 (by assumption)) rfl ?_
  refine Rn.putI dX0_copyFrom_37 fp_X0_9_0 (by first | rfl | exact gC0 (by assumption) | exact gL0 (by assumption)) rfl ?_
  refine Rn.aload_n dX0_copyFrom_40 rfl rfl ?_
  refine Rn.aload_n dX0_copyFrom_41 rfl rfl ?_
  refine Rn.getI dX0_copyFrom_42 fd_X0_15_0 (by first | rfl | exact gC0 (by assumption) | exact gL0 (by assumption)) rfl ?_
  refine Rn.putI dX0_copyFrom_45 fp_X0_15_0 (by first | rfl | exact gC0 (by assumption) | exact gL0 (by assumption)) rfl ?_
  refine Rn.aload_n dX0_copyFrom_48 rfl rfl ?_
  refine Rn.aload_n dX0_copyFrom_49 rfl rfl ?_
  refine Rn.getI dX0_copyFrom_50 fd_X0_18_0 (by first | rfl | exact gC0 (by assumption) | exact gL0 (by assumption)) rfl ?_
  refine Rn.putI dX0_copyFrom_53 fp_X0_18_0 (by first | rfl | exact gC0 (by assumption) | exact gL0 (by assumption)) rfl ?_
  refine Rn.aload_n dX0_copyFrom_56 rfl rfl ?_
  refine Rn.aload_n dX0_copyFrom_57 rfl rfl ?_
  refine Rn.getI dX0_copyFrom_58 fd_X0_43_0 (by first | rfl | exact gC0 (by assumption) | exact gL0 (by assumption)) rfl ?_
  refine Rn.putI dX0_copyFrom_61 fp_X0_43_0 (by first | rfl | exact gC0 (by assumption) | exact gL0 (by assumption)) rfl ?_
  refine Rn.aload_n dX0_copyFrom_64 rfl rfl ?_
  refine Rn.aload_n dX0_copyFrom_65 rfl rfl ?_
  refine Rn.getI dX0_copyFrom_66 fd_X0_46_0 (by first | rfl | exact gC0 (by assumption) | exact gL0 (by assumption)) rfl ?_
  refine Rn.putI dX0_copyFrom_69 fp_X0_46_0 (by first | rfl | exact gC0 (by assumption) | exact gL0 (by assumption)) rfl ?_
  refine Rn.aload_n dX0_copyFrom_72 rfl rfl ?_
  refine Rn.getR dX0_copyFrom_73 fd_X0_21_0 (by first | rfl | exact gC0 (by assumption) | exact gL0 (by assumption)) rfl ?_
  refine Rn.iconst (v := (nI 0)) dX0_copyFrom_76 rfl ?_
  refine Rn.aload_n dX0_copyFrom_77 rfl rfl ?_
  refine Rn.getR dX0_copyFrom_78 fd_X0_21_0 (by first | rfl | exact gC0 (by assumption) | exact gL0 (by assumption)) rfl ?_
  refine Rn.iconst (v := (nI 0)) dX0_copyFrom_81 rfl ?_
  refine Rn.bipush (v := (nI 56)) dX0_copyFrom_82 rfl ?_
  refine Rn.acopy dX0_copyFrom_84 ac_X0_49 (by first | rfl | exact gC1 (by assumption) | exact gC2 (by assumption) | exact gC3 (by assumption) | exact gL1 (by assumption) | exact gL2 (by assumption) | exact gL3 (by assumption) | exact gL4 (by assumption) | exact gL5 (by assumption) | exact gL6 (by assumption)) (by first | rfl | exact gC1 (by assumption) | exact gC2 (by assumption) | exact gC3 (by assumption) | exact gL1 (by assumption) | exact gL2 (by assumption) | exact gL3 (by assumption) | exact gL4 (by assumption) | exact gL5 (by assumption) | exact gL6 (by assumption)) (by decide) (by decide) (by decide) (Nat.le_of_ble_eq_true rfl) ?_
  refine Rn.aload_n dX0_copyFrom_87 rfl rfl ?_
  refine Rn.getR dX0_copyFrom_88 fd_X0_25_0 (by first | rfl | exact gC0 (by assumption) | exact gL0 (by assumption)) rfl ?_
  refine Rn.iconst (v := (nI 0)) dX0_copyFrom_91 rfl ?_
  refine Rn.aload_n dX0_copyFrom_92 rfl rfl ?_
  refine Rn.getR dX0_copyFrom_93 fd_X0_25_0 (by first | rfl | exact gC0 (by assumption) | exact gL0 (by assumption)) rfl ?_
  refine Rn.iconst (v := (nI 0)) dX0_copyFrom_96 rfl ?_
  refine Rn.bipush (v := (nI 72)) dX0_copyFrom_97 rfl ?_
  refine Rn.acopy dX0_copyFrom_99 ac_X0_49 (by first | rfl | exact gC1 (by assumption) | exact gC2 (by assumption) | exact gC3 (by assumption) | exact gL1 (by assumption) | exact gL2 (by assumption) | exact gL3 (by assumption) | exact gL4 (by assumption) | exact gL5 (by assumption) | exact gL6 (by assumption)) (by first | rfl | exact gC1 (by assumption) | exact gC2 (by assumption) | exact gC3 (by assumption) | exact gL1 (by assumption) | exact gL2 (by assumption) | exact gL3 (by assumption) | exact gL4 (by assumption) | exact gL5 (by assumption) | exact gL6 (by assumption)) (by decide) (by decide) (by decide) (Nat.le_of_ble_eq_true rfl) ?_
  refine Rn.aload_n dX0_copyFrom_102 rfl rfl ?_
  refine Rn.getR dX0_copyFrom_103 fd_X0_28_0 (by first | rfl | exact gC0 (by assumption) | exact gL0 (by assumption)) rfl ?_
  refine Rn.iconst (v := (nI 0)) dX0_copyFrom_106 rfl ?_
  refine Rn.aload_n dX0_copyFrom_107 rfl rfl ?_
  refine Rn.getR dX0_copyFrom_108 fd_X0_28_0 (by first | rfl | exact gC0 (by assumption) | exact gL0 (by assumption)) rfl ?_
  refine Rn.iconst (v := (nI 0)) dX0_copyFrom_111 rfl ?_
  refine Rn.sipush (v := (nI 240)) dX0_copyFrom_112 rfl ?_
  refine Rn.acopy dX0_copyFrom_115 ac_X0_49 (by first | rfl | exact gC1 (by assumption) | exact gC2 (by assumption) | exact gC3 (by assumption) | exact gL1 (by assumption) | exact gL2 (by assumption) | exact gL3 (by assumption) | exact gL4 (by assumption) | exact gL5 (by assumption) | exact gL6 (by assumption)) (by first | rfl | exact gC1 (by assumption) | exact gC2 (by assumption) | exact gC3 (by assumption) | exact gL1 (by assumption) | exact gL2 (by assumption) | exact gL3 (by assumption) | exact gL4 (by assumption) | exact gL5 (by assumption) | exact gL6 (by assumption)) (by decide) (by decide) (by decide) (Nat.le_of_ble_eq_true rfl) ?_
  have f9 : ∀ j, j < 9 → j = 0 ∨ j = 1 ∨ j = 2 ∨ j = 3 ∨ j = 4 ∨ j = 5 ∨ j = 6 ∨ j = 7 ∨ j = 8 := fun j hj => by omega
  exact Rn.vret dX0_copyFrom_118 rfl (⟨rfl, fun j hj => by rcases f9 j hj with rfl | rfl | rfl | rfl | rfl | rfl | rfl | rfl | rfl <;> rfl, fun j hj => by rw [zset_ne _ _ (by decide), zset_at, cpy_in hj]; first | done | rfl, fun a ha => by rw [zset_ne _ _ (by omega), zset_ne _ _ (by omega), zset_ne _ _ (by omega), zup_ne _ _ (by omega), zup_ne _ _ (by omega), zup_ne _ _ (by omega), zup_ne _ _ (by omega), zup_ne _ _ (by omega), zup_ne _ _ (by omega), zup_ne _ _ (by omega), zup_ne _ _ (by omega), zup_ne _ _ (by omega)]⟩)
theorem ct_cp3_82 (I : Hi) : Ct G GAM mX0_copyFrom d 0 [.ref 82, .ref 3] I (Rv (fun v J => v = none ∧ (∀ j, j < 9 → J 82 j = I 3 j) ∧ (∀ j, j < 72 → J 84 j = I 5 j) ∧ ∀ a, ¬ (82 ≤ a ∧ a ≤ 85) → J a = I a)) := by
  refine Ct.mk [some (.ref 82), some (.ref 3)] ?_
  refine Rn.aload_n dX0_copyFrom_0 rfl rfl ?_
  refine Rn.aload_n dX0_copyFrom_1 rfl rfl ?_
  refine Rn.getI dX0_copyFrom_2 fd_X0_31_0 (by first | rfl | exact gC0 (by assumption) | exact gL0 (by assumption)) rfl ?_
  refine Rn.putI dX0_copyFrom_5 fp_X0_31_0 (by first | rfl | exact gC0 (by assumption) | exact gL0 (by assumption)) rfl ?_
  refine Rn.aload_n dX0_copyFrom_8 rfl rfl ?_
  refine Rn.aload_n dX0_copyFrom_9 rfl rfl ?_
  refine Rn.getI dX0_copyFrom_10 fd_X0_34_0 (by first | rfl | exact gC0 (by assumption) | exact gL0 (by assumption)) rfl ?_
  refine Rn.putI dX0_copyFrom_13 fp_X0_34_0 (by first | rfl | exact gC0 (by assumption) | exact gL0 (by assumption)) rfl ?_
  refine Rn.aload_n dX0_copyFrom_16 rfl rfl ?_
  refine Rn.aload_n dX0_copyFrom_17 rfl rfl ?_
  refine Rn.getI dX0_copyFrom_18 fd_X0_37_0 (by first | rfl | exact gC0 (by assumption) | exact gL0 (by assumption)) rfl ?_
  refine Rn.putI dX0_copyFrom_21 fp_X0_37_0 (by first | rfl | exact gC0 (by assumption) | exact gL0 (by assumption)) rfl ?_
  refine Rn.aload_n dX0_copyFrom_24 rfl rfl ?_
  refine Rn.aload_n dX0_copyFrom_25 rfl rfl ?_
  refine Rn.getI dX0_copyFrom_26 fd_X0_40_0 (by first | rfl | exact gC0 (by assumption) | exact gL0 (by assumption)) rfl ?_
  refine Rn.putI dX0_copyFrom_29 fp_X0_40_0 (by first | rfl | exact gC0 (by assumption) | exact gL0 (by assumption)) rfl ?_
  refine Rn.aload_n dX0_copyFrom_32 rfl rfl ?_
  refine Rn.aload_n dX0_copyFrom_33 rfl rfl ?_
  refine Rn.getI dX0_copyFrom_34 fd_X0_9_0 (by first | rfl | exact gC0 (by assumption) | exact gL0 (by assumption)) rfl ?_
  refine Rn.putI dX0_copyFrom_37 fp_X0_9_0 (by first | rfl | exact gC0 (by assumption) | exact gL0 (by assumption)) rfl ?_
  refine Rn.aload_n dX0_copyFrom_40 rfl rfl ?_
  refine Rn.aload_n dX0_copyFrom_41 rfl rfl ?_
  refine Rn.getI dX0_copyFrom_42 fd_X0_15_0 (by first | rfl | exact gC0 (by assumption) | exact gL0 (by assumption)) rfl ?_
  refine Rn.putI dX0_copyFrom_45 fp_X0_15_0 (by first | rfl | exact gC0 (by assumption) | exact gL0 (by assumption)) rfl ?_
  refine Rn.aload_n dX0_copyFrom_48 rfl rfl ?_
  refine Rn.aload_n dX0_copyFrom_49 rfl rfl ?_
  refine Rn.getI dX0_copyFrom_50 fd_X0_18_0 (by first | rfl | exact gC0 (by assumption) | exact gL0 (by assumption)) rfl ?_
  refine Rn.putI dX0_copyFrom_53 fp_X0_18_0 (by first | rfl | exact gC0 (by assumption) | exact gL0 (by assumption)) rfl ?_
  refine Rn.aload_n dX0_copyFrom_56 rfl rfl ?_
  refine Rn.aload_n dX0_copyFrom_57 rfl rfl ?_
  refine Rn.getI dX0_copyFrom_58 fd_X0_43_0 (by first | rfl | exact gC0 (by assumption) | exact gL0 (by assumption)) rfl ?_
  refine Rn.putI dX0_copyFrom_61 fp_X0_43_0 (by first | rfl | exact gC0 (by assumption) | exact gL0 (by assumption)) rfl ?_
  refine Rn.aload_n dX0_copyFrom_64 rfl rfl ?_
  refine Rn.aload_n dX0_copyFrom_65 rfl rfl ?_
  refine Rn.getI dX0_copyFrom_66 fd_X0_46_0 (by first | rfl | exact gC0 (by assumption) | exact gL0 (by assumption)) rfl ?_
  refine Rn.putI dX0_copyFrom_69 fp_X0_46_0 (by first | rfl | exact gC0 (by assumption) | exact gL0 (by assumption)) rfl ?_
  refine Rn.aload_n dX0_copyFrom_72 rfl rfl ?_
  refine Rn.getR dX0_copyFrom_73 fd_X0_21_0 (by first | rfl | exact gC0 (by assumption) | exact gL0 (by assumption)) rfl ?_
  refine Rn.iconst (v := (nI 0)) dX0_copyFrom_76 rfl ?_
  refine Rn.aload_n dX0_copyFrom_77 rfl rfl ?_
  refine Rn.getR dX0_copyFrom_78 fd_X0_21_0 (by first | rfl | exact gC0 (by assumption) | exact gL0 (by assumption)) rfl ?_
  refine Rn.iconst (v := (nI 0)) dX0_copyFrom_81 rfl ?_
  refine Rn.bipush (v := (nI 56)) dX0_copyFrom_82 rfl ?_
  refine Rn.acopy dX0_copyFrom_84 ac_X0_49 (by first | rfl | exact gC1 (by assumption) | exact gC2 (by assumption) | exact gC3 (by assumption) | exact gL1 (by assumption) | exact gL2 (by assumption) | exact gL3 (by assumption) | exact gL4 (by assumption) | exact gL5 (by assumption) | exact gL6 (by assumption)) (by first | rfl | exact gC1 (by assumption) | exact gC2 (by assumption) | exact gC3 (by assumption) | exact gL1 (by assumption) | exact gL2 (by assumption) | exact gL3 (by assumption) | exact gL4 (by assumption) | exact gL5 (by assumption) | exact gL6 (by assumption)) (by decide) (by decide) (by decide) (Nat.le_of_ble_eq_true rfl) ?_
  refine Rn.aload_n dX0_copyFrom_87 rfl rfl ?_
  refine Rn.getR dX0_copyFrom_88 fd_X0_25_0 (by first | rfl | exact gC0 (by assumption) | exact gL0 (by assumption)) rfl ?_
  refine Rn.iconst (v := (nI 0)) dX0_copyFrom_91 rfl ?_
  refine Rn.aload_n dX0_copyFrom_92 rfl rfl ?_
  refine Rn.getR dX0_copyFrom_93 fd_X0_25_0 (by first | rfl | exact gC0 (by assumption) | exact gL0 (by assumption)) rfl ?_
  refine Rn.iconst (v := (nI 0)) dX0_copyFrom_96 rfl ?_
  refine Rn.bipush (v := (nI 72)) dX0_copyFrom_97 rfl ?_
  refine Rn.acopy dX0_copyFrom_99 ac_X0_49 (by first | rfl | exact gC1 (by assumption) | exact gC2 (by assumption) | exact gC3 (by assumption) | exact gL1 (by assumption) | exact gL2 (by assumption) | exact gL3 (by assumption) | exact gL4 (by assumption) | exact gL5 (by assumption) | exact gL6 (by assumption)) (by first | rfl | exact gC1 (by assumption) | exact gC2 (by assumption) | exact gC3 (by assumption) | exact gL1 (by assumption) | exact gL2 (by assumption) | exact gL3 (by assumption) | exact gL4 (by assumption) | exact gL5 (by assumption) | exact gL6 (by assumption)) (by decide) (by decide) (by decide) (Nat.le_of_ble_eq_true rfl) ?_
  refine Rn.aload_n dX0_copyFrom_102 rfl rfl ?_
  refine Rn.getR dX0_copyFrom_103 fd_X0_28_0 (by first | rfl | exact gC0 (by assumption) | exact gL0 (by assumption)) rfl ?_
  refine Rn.iconst (v := (nI 0)) dX0_copyFrom_106 rfl ?_
  refine Rn.aload_n dX0_copyFrom_107 rfl rfl ?_
  refine Rn.getR dX0_copyFrom_108 fd_X0_28_0 (by first | rfl | exact gC0 (by assumption) | exact gL0 (by assumption)) rfl ?_
  refine Rn.iconst (v := (nI 0)) dX0_copyFrom_111 rfl ?_
  refine Rn.sipush (v := (nI 240)) dX0_copyFrom_112 rfl ?_
  refine Rn.acopy dX0_copyFrom_115 ac_X0_49 (by first | rfl | exact gC1 (by assumption) | exact gC2 (by assumption) | exact gC3 (by assumption) | exact gL1 (by assumption) | exact gL2 (by assumption) | exact gL3 (by assumption) | exact gL4 (by assumption) | exact gL5 (by assumption) | exact gL6 (by assumption)) (by first | rfl | exact gC1 (by assumption) | exact gC2 (by assumption) | exact gC3 (by assumption) | exact gL1 (by assumption) | exact gL2 (by assumption) | exact gL3 (by assumption) | exact gL4 (by assumption) | exact gL5 (by assumption) | exact gL6 (by assumption)) (by decide) (by decide) (by decide) (Nat.le_of_ble_eq_true rfl) ?_
  have f9 : ∀ j, j < 9 → j = 0 ∨ j = 1 ∨ j = 2 ∨ j = 3 ∨ j = 4 ∨ j = 5 ∨ j = 6 ∨ j = 7 ∨ j = 8 := fun j hj => by omega
  exact Rn.vret dX0_copyFrom_118 rfl (⟨rfl, fun j hj => by rcases f9 j hj with rfl | rfl | rfl | rfl | rfl | rfl | rfl | rfl | rfl <;> rfl, fun j hj => by rw [zset_ne _ _ (by decide), zset_at, cpy_in hj]; first | done | rfl, fun a ha => by rw [zset_ne _ _ (by omega), zset_ne _ _ (by omega), zset_ne _ _ (by omega), zup_ne _ _ (by omega), zup_ne _ _ (by omega), zup_ne _ _ (by omega), zup_ne _ _ (by omega), zup_ne _ _ (by omega), zup_ne _ _ (by omega), zup_ne _ _ (by omega), zup_ne _ _ (by omega), zup_ne _ _ (by omega)]⟩)
theorem ct_cp3_86 (I : Hi) : Ct G GAM mX0_copyFrom d 0 [.ref 86, .ref 3] I (Rv (fun v J => v = none ∧ (∀ j, j < 9 → J 86 j = I 3 j) ∧ (∀ j, j < 72 → J 88 j = I 5 j) ∧ ∀ a, ¬ (86 ≤ a ∧ a ≤ 89) → J a = I a)) := by
  refine Ct.mk [some (.ref 86), some (.ref 3)] ?_
  refine Rn.aload_n dX0_copyFrom_0 rfl rfl ?_
  refine Rn.aload_n dX0_copyFrom_1 rfl rfl ?_
  refine Rn.getI dX0_copyFrom_2 fd_X0_31_0 (by first | rfl | exact gC0 (by assumption) | exact gL0 (by assumption)) rfl ?_
  refine Rn.putI dX0_copyFrom_5 fp_X0_31_0 (by first | rfl | exact gC0 (by assumption) | exact gL0 (by assumption)) rfl ?_
  refine Rn.aload_n dX0_copyFrom_8 rfl rfl ?_
  refine Rn.aload_n dX0_copyFrom_9 rfl rfl ?_
  refine Rn.getI dX0_copyFrom_10 fd_X0_34_0 (by first | rfl | exact gC0 (by assumption) | exact gL0 (by assumption)) rfl ?_
  refine Rn.putI dX0_copyFrom_13 fp_X0_34_0 (by first | rfl | exact gC0 (by assumption) | exact gL0 (by assumption)) rfl ?_
  refine Rn.aload_n dX0_copyFrom_16 rfl rfl ?_
  refine Rn.aload_n dX0_copyFrom_17 rfl rfl ?_
  refine Rn.getI dX0_copyFrom_18 fd_X0_37_0 (by first | rfl | exact gC0 (by assumption) | exact gL0 (by assumption)) rfl ?_
  refine Rn.putI dX0_copyFrom_21 fp_X0_37_0 (by first | rfl | exact gC0 (by assumption) | exact gL0 (by assumption)) rfl ?_
  refine Rn.aload_n dX0_copyFrom_24 rfl rfl ?_
  refine Rn.aload_n dX0_copyFrom_25 rfl rfl ?_
  refine Rn.getI dX0_copyFrom_26 fd_X0_40_0 (by first | rfl | exact gC0 (by assumption) | exact gL0 (by assumption)) rfl ?_
  refine Rn.putI dX0_copyFrom_29 fp_X0_40_0 (by first | rfl | exact gC0 (by assumption) | exact gL0 (by assumption)) rfl ?_
  refine Rn.aload_n dX0_copyFrom_32 rfl rfl ?_
  refine Rn.aload_n dX0_copyFrom_33 rfl rfl ?_
  refine Rn.getI dX0_copyFrom_34 fd_X0_9_0 (by first | rfl | exact gC0 (by assumption) | exact gL0 (by assumption)) rfl ?_
  refine Rn.putI dX0_copyFrom_37 fp_X0_9_0 (by first | rfl | exact gC0 (by assumption) | exact gL0 (by assumption)) rfl ?_
  refine Rn.aload_n dX0_copyFrom_40 rfl rfl ?_
  refine Rn.aload_n dX0_copyFrom_41 rfl rfl ?_
  refine Rn.getI dX0_copyFrom_42 fd_X0_15_0 (by first | rfl | exact gC0 (by assumption) | exact gL0 (by assumption)) rfl ?_
  refine Rn.putI dX0_copyFrom_45 fp_X0_15_0 (by first | rfl | exact gC0 (by assumption) | exact gL0 (by assumption)) rfl ?_
  refine Rn.aload_n dX0_copyFrom_48 rfl rfl ?_
  refine Rn.aload_n dX0_copyFrom_49 rfl rfl ?_
  refine Rn.getI dX0_copyFrom_50 fd_X0_18_0 (by first | rfl | exact gC0 (by assumption) | exact gL0 (by assumption)) rfl ?_
  refine Rn.putI dX0_copyFrom_53 fp_X0_18_0 (by first | rfl | exact gC0 (by assumption) | exact gL0 (by assumption)) rfl ?_
  refine Rn.aload_n dX0_copyFrom_56 rfl rfl ?_
  refine Rn.aload_n dX0_copyFrom_57 rfl rfl ?_
  refine Rn.getI dX0_copyFrom_58 fd_X0_43_0 (by first | rfl | exact gC0 (by assumption) | exact gL0 (by assumption)) rfl ?_
  refine Rn.putI dX0_copyFrom_61 fp_X0_43_0 (by first | rfl | exact gC0 (by assumption) | exact gL0 (by assumption)) rfl ?_
  refine Rn.aload_n dX0_copyFrom_64 rfl rfl ?_
  refine Rn.aload_n dX0_copyFrom_65 rfl rfl ?_
  refine Rn.getI dX0_copyFrom_66 fd_X0_46_0 (by first | rfl | exact gC0 (by assumption) | exact gL0 (by assumption)) rfl ?_
  refine Rn.putI dX0_copyFrom_69 fp_X0_46_0 (by first | rfl | exact gC0 (by assumption) | exact gL0 (by assumption)) rfl ?_
  refine Rn.aload_n dX0_copyFrom_72 rfl rfl ?_
  refine Rn.getR dX0_copyFrom_73 fd_X0_21_0 (by first | rfl | exact gC0 (by assumption) | exact gL0 (by assumption)) rfl ?_
  refine Rn.iconst (v := (nI 0)) dX0_copyFrom_76 rfl ?_
  refine Rn.aload_n dX0_copyFrom_77 rfl rfl ?_
  refine Rn.getR dX0_copyFrom_78 fd_X0_21_0 (by first | rfl | exact gC0 (by assumption) | exact gL0 (by assumption)) rfl ?_
  refine Rn.iconst (v := (nI 0)) dX0_copyFrom_81 rfl ?_
  refine Rn.bipush (v := (nI 56)) dX0_copyFrom_82 rfl ?_
  refine Rn.acopy dX0_copyFrom_84 ac_X0_49 (by first | rfl | exact gC1 (by assumption) | exact gC2 (by assumption) | exact gC3 (by assumption) | exact gL1 (by assumption) | exact gL2 (by assumption) | exact gL3 (by assumption) | exact gL4 (by assumption) | exact gL5 (by assumption) | exact gL6 (by assumption)) (by first | rfl | exact gC1 (by assumption) | exact gC2 (by assumption) | exact gC3 (by assumption) | exact gL1 (by assumption) | exact gL2 (by assumption) | exact gL3 (by assumption) | exact gL4 (by assumption) | exact gL5 (by assumption) | exact gL6 (by assumption)) (by decide) (by decide) (by decide) (Nat.le_of_ble_eq_true rfl) ?_
  refine Rn.aload_n dX0_copyFrom_87 rfl rfl ?_
  refine Rn.getR dX0_copyFrom_88 fd_X0_25_0 (by first | rfl | exact gC0 (by assumption) | exact gL0 (by assumption)) rfl ?_
  refine Rn.iconst (v := (nI 0)) dX0_copyFrom_91 rfl ?_
  refine Rn.aload_n dX0_copyFrom_92 rfl rfl ?_
  refine Rn.getR dX0_copyFrom_93 fd_X0_25_0 (by first | rfl | exact gC0 (by assumption) | exact gL0 (by assumption)) rfl ?_
  refine Rn.iconst (v := (nI 0)) dX0_copyFrom_96 rfl ?_
  refine Rn.bipush (v := (nI 72)) dX0_copyFrom_97 rfl ?_
  refine Rn.acopy dX0_copyFrom_99 ac_X0_49 (by first | rfl | exact gC1 (by assumption) | exact gC2 (by assumption) | exact gC3 (by assumption) | exact gL1 (by assumption) | exact gL2 (by assumption) | exact gL3 (by assumption) | exact gL4 (by assumption) | exact gL5 (by assumption) | exact gL6 (by assumption)) (by first | rfl | exact gC1 (by assumption) | exact gC2 (by assumption) | exact gC3 (by assumption) | exact gL1 (by assumption) | exact gL2 (by assumption) | exact gL3 (by assumption) | exact gL4 (by assumption) | exact gL5 (by assumption) | exact gL6 (by assumption)) (by decide) (by decide) (by decide) (Nat.le_of_ble_eq_true rfl) ?_
  refine Rn.aload_n dX0_copyFrom_102 rfl rfl ?_
  refine Rn.getR dX0_copyFrom_103 fd_X0_28_0 (by first | rfl | exact gC0 (by assumption) | exact gL0 (by assumption)) rfl ?_
  refine Rn.iconst (v := (nI 0)) dX0_copyFrom_106 rfl ?_
  refine Rn.aload_n dX0_copyFrom_107 rfl rfl ?_
  refine Rn.getR dX0_copyFrom_108 fd_X0_28_0 (by first | rfl | exact gC0 (by assumption) | exact gL0 (by assumption)) rfl ?_
  refine Rn.iconst (v := (nI 0)) dX0_copyFrom_111 rfl ?_
  refine Rn.sipush (v := (nI 240)) dX0_copyFrom_112 rfl ?_
  refine Rn.acopy dX0_copyFrom_115 ac_X0_49 (by first | rfl | exact gC1 (by assumption) | exact gC2 (by assumption) | exact gC3 (by assumption) | exact gL1 (by assumption) | exact gL2 (by assumption) | exact gL3 (by assumption) | exact gL4 (by assumption) | exact gL5 (by assumption) | exact gL6 (by assumption)) (by first | rfl | exact gC1 (by assumption) | exact gC2 (by assumption) | exact gC3 (by assumption) | exact gL1 (by assumption) | exact gL2 (by assumption) | exact gL3 (by assumption) | exact gL4 (by assumption) | exact gL5 (by assumption) | exact gL6 (by assumption)) (by decide) (by decide) (by decide) (Nat.le_of_ble_eq_true rfl) ?_
  have f9 : ∀ j, j < 9 → j = 0 ∨ j = 1 ∨ j = 2 ∨ j = 3 ∨ j = 4 ∨ j = 5 ∨ j = 6 ∨ j = 7 ∨ j = 8 := fun j hj => by omega
  exact Rn.vret dX0_copyFrom_118 rfl (⟨rfl, fun j hj => by rcases f9 j hj with rfl | rfl | rfl | rfl | rfl | rfl | rfl | rfl | rfl <;> rfl, fun j hj => by rw [zset_ne _ _ (by decide), zset_at, cpy_in hj]; first | done | rfl, fun a ha => by rw [zset_ne _ _ (by omega), zset_ne _ _ (by omega), zset_ne _ _ (by omega), zup_ne _ _ (by omega), zup_ne _ _ (by omega), zup_ne _ _ (by omega), zup_ne _ _ (by omega), zup_ne _ _ (by omega), zup_ne _ _ (by omega), zup_ne _ _ (by omega), zup_ne _ _ (by omega), zup_ne _ _ (by omega)]⟩)
theorem ct_cp3_90 (I : Hi) : Ct G GAM mX0_copyFrom d 0 [.ref 90, .ref 3] I (Rv (fun v J => v = none ∧ (∀ j, j < 9 → J 90 j = I 3 j) ∧ (∀ j, j < 72 → J 92 j = I 5 j) ∧ ∀ a, ¬ (90 ≤ a ∧ a ≤ 93) → J a = I a)) := by
  refine Ct.mk [some (.ref 90), some (.ref 3)] ?_
  refine Rn.aload_n dX0_copyFrom_0 rfl rfl ?_
  refine Rn.aload_n dX0_copyFrom_1 rfl rfl ?_
  refine Rn.getI dX0_copyFrom_2 fd_X0_31_0 (by first | rfl | exact gC0 (by assumption) | exact gL0 (by assumption)) rfl ?_
  refine Rn.putI dX0_copyFrom_5 fp_X0_31_0 (by first | rfl | exact gC0 (by assumption) | exact gL0 (by assumption)) rfl ?_
  refine Rn.aload_n dX0_copyFrom_8 rfl rfl ?_
  refine Rn.aload_n dX0_copyFrom_9 rfl rfl ?_
  refine Rn.getI dX0_copyFrom_10 fd_X0_34_0 (by first | rfl | exact gC0 (by assumption) | exact gL0 (by assumption)) rfl ?_
  refine Rn.putI dX0_copyFrom_13 fp_X0_34_0 (by first | rfl | exact gC0 (by assumption) | exact gL0 (by assumption)) rfl ?_
  refine Rn.aload_n dX0_copyFrom_16 rfl rfl ?_
  refine Rn.aload_n dX0_copyFrom_17 rfl rfl ?_
  refine Rn.getI dX0_copyFrom_18 fd_X0_37_0 (by first | rfl | exact gC0 (by assumption) | exact gL0 (by assumption)) rfl ?_
  refine Rn.putI dX0_copyFrom_21 fp_X0_37_0 (by first | rfl | exact gC0 (by assumption) | exact gL0 (by assumption)) rfl ?_
  refine Rn.aload_n dX0_copyFrom_24 rfl rfl ?_
  refine Rn.aload_n dX0_copyFrom_25 rfl rfl ?_
  refine Rn.getI dX0_copyFrom_26 fd_X0_40_0 (by first | rfl | exact gC0 (by assumption) | exact gL0 (by assumption)) rfl ?_
  refine Rn.putI dX0_copyFrom_29 fp_X0_40_0 (by first | rfl | exact gC0 (by assumption) | exact gL0 (by assumption)) rfl ?_
  refine Rn.aload_n dX0_copyFrom_32 rfl rfl ?_
  refine Rn.aload_n dX0_copyFrom_33 rfl rfl ?_
  refine Rn.getI dX0_copyFrom_34 fd_X0_9_0 (by first | rfl | exact gC0 (by assumption) | exact gL0 (by assumption)) rfl ?_
  refine Rn.putI dX0_copyFrom_37 fp_X0_9_0 (by first | rfl | exact gC0 (by assumption) | exact gL0 (by assumption)) rfl ?_
  refine Rn.aload_n dX0_copyFrom_40 rfl rfl ?_
  refine Rn.aload_n dX0_copyFrom_41 rfl rfl ?_
  refine Rn.getI dX0_copyFrom_42 fd_X0_15_0 (by first | rfl | exact gC0 (by assumption) | exact gL0 (by assumption)) rfl ?_
  refine Rn.putI dX0_copyFrom_45 fp_X0_15_0 (by first | rfl | exact gC0 (by assumption) | exact gL0 (by assumption)) rfl ?_
  refine Rn.aload_n dX0_copyFrom_48 rfl rfl ?_
  refine Rn.aload_n dX0_copyFrom_49 rfl rfl ?_
  refine Rn.getI dX0_copyFrom_50 fd_X0_18_0 (by first | rfl | exact gC0 (by assumption) | exact gL0 (by assumption)) rfl ?_
  refine Rn.putI dX0_copyFrom_53 fp_X0_18_0 (by first | rfl | exact gC0 (by assumption) | exact gL0 (by assumption)) rfl ?_
  refine Rn.aload_n dX0_copyFrom_56 rfl rfl ?_
  refine Rn.aload_n dX0_copyFrom_57 rfl rfl ?_
  refine Rn.getI dX0_copyFrom_58 fd_X0_43_0 (by first | rfl | exact gC0 (by assumption) | exact gL0 (by assumption)) rfl ?_
  refine Rn.putI dX0_copyFrom_61 fp_X0_43_0 (by first | rfl | exact gC0 (by assumption) | exact gL0 (by assumption)) rfl ?_
  refine Rn.aload_n dX0_copyFrom_64 rfl rfl ?_
  refine Rn.aload_n dX0_copyFrom_65 rfl rfl ?_
  refine Rn.getI dX0_copyFrom_66 fd_X0_46_0 (by first | rfl | exact gC0 (by assumption) | exact gL0 (by assumption)) rfl ?_
  refine Rn.putI dX0_copyFrom_69 fp_X0_46_0 (by first | rfl | exact gC0 (by assumption) | exact gL0 (by assumption)) rfl ?_
  refine Rn.aload_n dX0_copyFrom_72 rfl rfl ?_
  refine Rn.getR dX0_copyFrom_73 fd_X0_21_0 (by first | rfl | exact gC0 (by assumption) | exact gL0 (by assumption)) rfl ?_
  refine Rn.iconst (v := (nI 0)) dX0_copyFrom_76 rfl ?_
  refine Rn.aload_n dX0_copyFrom_77 rfl rfl ?_
  refine Rn.getR dX0_copyFrom_78 fd_X0_21_0 (by first | rfl | exact gC0 (by assumption) | exact gL0 (by assumption)) rfl ?_
  refine Rn.iconst (v := (nI 0)) dX0_copyFrom_81 rfl ?_
  refine Rn.bipush (v := (nI 56)) dX0_copyFrom_82 rfl ?_
  refine Rn.acopy dX0_copyFrom_84 ac_X0_49 (by first | rfl | exact gC1 (by assumption) | exact gC2 (by assumption) | exact gC3 (by assumption) | exact gL1 (by assumption) | exact gL2 (by assumption) | exact gL3 (by assumption) | exact gL4 (by assumption) | exact gL5 (by assumption) | exact gL6 (by assumption)) (by first | rfl | exact gC1 (by assumption) | exact gC2 (by assumption) | exact gC3 (by assumption) | exact gL1 (by assumption) | exact gL2 (by assumption) | exact gL3 (by assumption) | exact gL4 (by assumption) | exact gL5 (by assumption) | exact gL6 (by assumption)) (by decide) (by decide) (by decide) (Nat.le_of_ble_eq_true rfl) ?_
  refine Rn.aload_n dX0_copyFrom_87 rfl rfl ?_
  refine Rn.getR dX0_copyFrom_88 fd_X0_25_0 (by first | rfl | exact gC0 (by assumption) | exact gL0 (by assumption)) rfl ?_
  refine Rn.iconst (v := (nI 0)) dX0_copyFrom_91 rfl ?_
  refine Rn.aload_n dX0_copyFrom_92 rfl rfl ?_
  refine Rn.getR dX0_copyFrom_93 fd_X0_25_0 (by first | rfl | exact gC0 (by assumption) | exact gL0 (by assumption)) rfl ?_
  refine Rn.iconst (v := (nI 0)) dX0_copyFrom_96 rfl ?_
  refine Rn.bipush (v := (nI 72)) dX0_copyFrom_97 rfl ?_
  refine Rn.acopy dX0_copyFrom_99 ac_X0_49 (by first | rfl | exact gC1 (by assumption) | exact gC2 (by assumption) | exact gC3 (by assumption) | exact gL1 (by assumption) | exact gL2 (by assumption) | exact gL3 (by assumption) | exact gL4 (by assumption) | exact gL5 (by assumption) | exact gL6 (by assumption)) (by first | rfl | exact gC1 (by assumption) | exact gC2 (by assumption) | exact gC3 (by assumption) | exact gL1 (by assumption) | exact gL2 (by assumption) | exact gL3 (by assumption) | exact gL4 (by assumption) | exact gL5 (by assumption) | exact gL6 (by assumption)) (by decide) (by decide) (by decide) (Nat.le_of_ble_eq_true rfl) ?_
  refine Rn.aload_n dX0_copyFrom_102 rfl rfl ?_
  refine Rn.getR dX0_copyFrom_103 fd_X0_28_0 (by first | rfl | exact gC0 (by assumption) | exact gL0 (by assumption)) rfl ?_
  refine Rn.iconst (v := (nI 0)) dX0_copyFrom_106 rfl ?_
  refine Rn.aload_n dX0_copyFrom_107 rfl rfl ?_
  refine Rn.getR dX0_copyFrom_108 fd_X0_28_0 (by first | rfl | exact gC0 (by assumption) | exact gL0 (by assumption)) rfl ?_
  refine Rn.iconst (v := (nI 0)) dX0_copyFrom_111 rfl ?_
  refine Rn.sipush (v := (nI 240)) dX0_copyFrom_112 rfl ?_
  refine Rn.acopy dX0_copyFrom_115 ac_X0_49 (by first | rfl | exact gC1 (by assumption) | exact gC2 (by assumption) | exact gC3 (by assumption) | exact gL1 (by assumption) | exact gL2 (by assumption) | exact gL3 (by assumption) | exact gL4 (by assumption) | exact gL5 (by assumption) | exact gL6 (by assumption)) (by first | rfl | exact gC1 (by assumption) | exact gC2 (by assumption) | exact gC3 (by assumption) | exact gL1 (by assumption) | exact gL2 (by assumption) | exact gL3 (by assumption) | exact gL4 (by assumption) | exact gL5 (by assumption) | exact gL6 (by assumption)) (by decide) (by decide) (by decide) (Nat.le_of_ble_eq_true rfl) ?_
  have f9 : ∀ j, j < 9 → j = 0 ∨ j = 1 ∨ j = 2 ∨ j = 3 ∨ j = 4 ∨ j = 5 ∨ j = 6 ∨ j = 7 ∨ j = 8 := fun j hj => by omega
  exact Rn.vret dX0_copyFrom_118 rfl (⟨rfl, fun j hj => by rcases f9 j hj with rfl | rfl | rfl | rfl | rfl | rfl | rfl | rfl | rfl <;> rfl, fun j hj => by rw [zset_ne _ _ (by decide), zset_at, cpy_in hj]; first | done | rfl, fun a ha => by rw [zset_ne _ _ (by omega), zset_ne _ _ (by omega), zset_ne _ _ (by omega), zup_ne _ _ (by omega), zup_ne _ _ (by omega), zup_ne _ _ (by omega), zup_ne _ _ (by omega), zup_ne _ _ (by omega), zup_ne _ _ (by omega), zup_ne _ _ (by omega), zup_ne _ _ (by omega), zup_ne _ _ (by omega)]⟩)
theorem ct_cp46_3 (I : Hi) : Ct G GAM mX0_copyFrom d 0 [.ref 3, .ref 46] I (Rv (fun v J => v = none ∧ (∀ j, j < 9 → J 3 j = I 46 j) ∧ (∀ j, j < 72 → J 5 j = I 48 j) ∧ ∀ a, ¬ (3 ≤ a ∧ a ≤ 6) → J a = I a)) := by
  refine Ct.mk [some (.ref 3), some (.ref 46)] ?_
  refine Rn.aload_n dX0_copyFrom_0 rfl rfl ?_
  refine Rn.aload_n dX0_copyFrom_1 rfl rfl ?_
  refine Rn.getI dX0_copyFrom_2 fd_X0_31_0 (by first | rfl | exact gC0 (by assumption) | exact gL0 (by assumption)) rfl ?_
  refine Rn.putI dX0_copyFrom_5 fp_X0_31_0 (by first | rfl | exact gC0 (by assumption) | exact gL0 (by assumption)) rfl ?_
  refine Rn.aload_n dX0_copyFrom_8 rfl rfl ?_
  refine Rn.aload_n dX0_copyFrom_9 rfl rfl ?_
  refine Rn.getI dX0_copyFrom_10 fd_X0_34_0 (by first | rfl | exact gC0 (by assumption) | exact gL0 (by assumption)) rfl ?_
  refine Rn.putI dX0_copyFrom_13 fp_X0_34_0 (by first | rfl | exact gC0 (by assumption) | exact gL0 (by assumption)) rfl ?_
  refine Rn.aload_n dX0_copyFrom_16 rfl rfl ?_
  refine Rn.aload_n dX0_copyFrom_17 rfl rfl ?_
  refine Rn.getI dX0_copyFrom_18 fd_X0_37_0 (by first | rfl | exact gC0 (by assumption) | exact gL0 (by assumption)) rfl ?_
  refine Rn.putI dX0_copyFrom_21 fp_X0_37_0 (by first | rfl | exact gC0 (by assumption) | exact gL0 (by assumption)) rfl ?_
  refine Rn.aload_n dX0_copyFrom_24 rfl rfl ?_
  refine Rn.aload_n dX0_copyFrom_25 rfl rfl ?_
  refine Rn.getI dX0_copyFrom_26 fd_X0_40_0 (by first | rfl | exact gC0 (by assumption) | exact gL0 (by assumption)) rfl ?_
  refine Rn.putI dX0_copyFrom_29 fp_X0_40_0 (by first | rfl | exact gC0 (by assumption) | exact gL0 (by assumption)) rfl ?_
  refine Rn.aload_n dX0_copyFrom_32 rfl rfl ?_
  refine Rn.aload_n dX0_copyFrom_33 rfl rfl ?_
  refine Rn.getI dX0_copyFrom_34 fd_X0_9_0 (by first | rfl | exact gC0 (by assumption) | exact gL0 (by assumption)) rfl ?_
  refine Rn.putI dX0_copyFrom_37 fp_X0_9_0 (by first | rfl | exact gC0 (by assumption) | exact gL0 (by assumption)) rfl ?_
  refine Rn.aload_n dX0_copyFrom_40 rfl rfl ?_
  refine Rn.aload_n dX0_copyFrom_41 rfl rfl ?_
  refine Rn.getI dX0_copyFrom_42 fd_X0_15_0 (by first | rfl | exact gC0 (by assumption) | exact gL0 (by assumption)) rfl ?_
  refine Rn.putI dX0_copyFrom_45 fp_X0_15_0 (by first | rfl | exact gC0 (by assumption) | exact gL0 (by assumption)) rfl ?_
  refine Rn.aload_n dX0_copyFrom_48 rfl rfl ?_
  refine Rn.aload_n dX0_copyFrom_49 rfl rfl ?_
  refine Rn.getI dX0_copyFrom_50 fd_X0_18_0 (by first | rfl | exact gC0 (by assumption) | exact gL0 (by assumption)) rfl ?_
  refine Rn.putI dX0_copyFrom_53 fp_X0_18_0 (by first | rfl | exact gC0 (by assumption) | exact gL0 (by assumption)) rfl ?_
  refine Rn.aload_n dX0_copyFrom_56 rfl rfl ?_
  refine Rn.aload_n dX0_copyFrom_57 rfl rfl ?_
  refine Rn.getI dX0_copyFrom_58 fd_X0_43_0 (by first | rfl | exact gC0 (by assumption) | exact gL0 (by assumption)) rfl ?_
  refine Rn.putI dX0_copyFrom_61 fp_X0_43_0 (by first | rfl | exact gC0 (by assumption) | exact gL0 (by assumption)) rfl ?_
  refine Rn.aload_n dX0_copyFrom_64 rfl rfl ?_
  refine Rn.aload_n dX0_copyFrom_65 rfl rfl ?_
  refine Rn.getI dX0_copyFrom_66 fd_X0_46_0 (by first | rfl | exact gC0 (by assumption) | exact gL0 (by assumption)) rfl ?_
  refine Rn.putI dX0_copyFrom_69 fp_X0_46_0 (by first | rfl | exact gC0 (by assumption) | exact gL0 (by assumption)) rfl ?_
  refine Rn.aload_n dX0_copyFrom_72 rfl rfl ?_
  refine Rn.getR dX0_copyFrom_73 fd_X0_21_0 (by first | rfl | exact gC0 (by assumption) | exact gL0 (by assumption)) rfl ?_
  refine Rn.iconst (v := (nI 0)) dX0_copyFrom_76 rfl ?_
  refine Rn.aload_n dX0_copyFrom_77 rfl rfl ?_
  refine Rn.getR dX0_copyFrom_78 fd_X0_21_0 (by first | rfl | exact gC0 (by assumption) | exact gL0 (by assumption)) rfl ?_
  refine Rn.iconst (v := (nI 0)) dX0_copyFrom_81 rfl ?_
  refine Rn.bipush (v := (nI 56)) dX0_copyFrom_82 rfl ?_
  refine Rn.acopy dX0_copyFrom_84 ac_X0_49 (by first | rfl | exact gC1 (by assumption) | exact gC2 (by assumption) | exact gC3 (by assumption) | exact gL1 (by assumption) | exact gL2 (by assumption) | exact gL3 (by assumption) | exact gL4 (by assumption) | exact gL5 (by assumption) | exact gL6 (by assumption)) (by first | rfl | exact gC1 (by assumption) | exact gC2 (by assumption) | exact gC3 (by assumption) | exact gL1 (by assumption) | exact gL2 (by assumption) | exact gL3 (by assumption) | exact gL4 (by assumption) | exact gL5 (by assumption) | exact gL6 (by assumption)) (by decide) (by decide) (by decide) (Nat.le_of_ble_eq_true rfl) ?_
  refine Rn.aload_n dX0_copyFrom_87 rfl rfl ?_
  refine Rn.getR dX0_copyFrom_88 fd_X0_25_0 (by first | rfl | exact gC0 (by assumption) | exact gL0 (by assumption)) rfl ?_
  refine Rn.iconst (v := (nI 0)) dX0_copyFrom_91 rfl ?_
  refine Rn.aload_n dX0_copyFrom_92 rfl rfl ?_
  refine Rn.getR dX0_copyFrom_93 fd_X0_25_0 (by first | rfl | exact gC0 (by assumption) | exact gL0 (by assumption)) rfl ?_
  refine Rn.iconst (v := (nI 0)) dX0_copyFrom_96 rfl ?_
  refine Rn.bipush (v := (nI 72)) dX0_copyFrom_97 rfl ?_
  refine Rn.acopy dX0_copyFrom_99 ac_X0_49 (by first | rfl | exact gC1 (by assumption) | exact gC2 (by assumption) | exact gC3 (by assumption) | exact gL1 (by assumption) | exact gL2 (by assumption) | exact gL3 (by assumption) | exact gL4 (by assumption) | exact gL5 (by assumption) | exact gL6 (by assumption)) (by first | rfl | exact gC1 (by assumption) | exact gC2 (by assumption) | exact gC3 (by assumption) | exact gL1 (by assumption) | exact gL2 (by assumption) | exact gL3 (by assumption) | exact gL4 (by assumption) | exact gL5 (by assumption) | exact gL6 (by assumption)) (by decide) (by decide) (by decide) (Nat.le_of_ble_eq_true rfl) ?_
  refine Rn.aload_n dX0_copyFrom_102 rfl rfl ?_
  refine Rn.getR dX0_copyFrom_103 fd_X0_28_0 (by first | rfl | exact gC0 (by assumption) | exact gL0 (by assumption)) rfl ?_
  refine Rn.iconst (v := (nI 0)) dX0_copyFrom_106 rfl ?_
  refine Rn.aload_n dX0_copyFrom_107 rfl rfl ?_
  refine Rn.getR dX0_copyFrom_108 fd_X0_28_0 (by first | rfl | exact gC0 (by assumption) | exact gL0 (by assumption)) rfl ?_
  refine Rn.iconst (v := (nI 0)) dX0_copyFrom_111 rfl ?_
  refine Rn.sipush (v := (nI 240)) dX0_copyFrom_112 rfl ?_
  refine Rn.acopy dX0_copyFrom_115 ac_X0_49 (by first | rfl | exact gC1 (by assumption) | exact gC2 (by assumption) | exact gC3 (by assumption) | exact gL1 (by assumption) | exact gL2 (by assumption) | exact gL3 (by assumption) | exact gL4 (by assumption) | exact gL5 (by assumption) | exact gL6 (by assumption)) (by first | rfl | exact gC1 (by assumption) | exact gC2 (by assumption) | exact gC3 (by assumption) | exact gL1 (by assumption) | exact gL2 (by assumption) | exact gL3 (by assumption) | exact gL4 (by assumption) | exact gL5 (by assumption) | exact gL6 (by assumption)) (by decide) (by decide) (by decide) (Nat.le_of_ble_eq_true rfl) ?_
  have f9 : ∀ j, j < 9 → j = 0 ∨ j = 1 ∨ j = 2 ∨ j = 3 ∨ j = 4 ∨ j = 5 ∨ j = 6 ∨ j = 7 ∨ j = 8 := fun j hj => by omega
  exact Rn.vret dX0_copyFrom_118 rfl (⟨rfl, fun j hj => by rcases f9 j hj with rfl | rfl | rfl | rfl | rfl | rfl | rfl | rfl | rfl <;> rfl, fun j hj => by rw [zset_ne _ _ (by decide), zset_at, cpy_in hj]; first | done | rfl, fun a ha => by rw [zset_ne _ _ (by omega), zset_ne _ _ (by omega), zset_ne _ _ (by omega), zup_ne _ _ (by omega), zup_ne _ _ (by omega), zup_ne _ _ (by omega), zup_ne _ _ (by omega), zup_ne _ _ (by omega), zup_ne _ _ (by omega), zup_ne _ _ (by omega), zup_ne _ _ (by omega), zup_ne _ _ (by omega)]⟩)
theorem ct_cp50_3 (I : Hi) : Ct G GAM mX0_copyFrom d 0 [.ref 3, .ref 50] I (Rv (fun v J => v = none ∧ (∀ j, j < 9 → J 3 j = I 50 j) ∧ (∀ j, j < 72 → J 5 j = I 52 j) ∧ ∀ a, ¬ (3 ≤ a ∧ a ≤ 6) → J a = I a)) := by
  refine Ct.mk [some (.ref 3), some (.ref 50)] ?_
  refine Rn.aload_n dX0_copyFrom_0 rfl rfl ?_
  refine Rn.aload_n dX0_copyFrom_1 rfl rfl ?_
  refine Rn.getI dX0_copyFrom_2 fd_X0_31_0 (by first | rfl | exact gC0 (by assumption) | exact gL0 (by assumption)) rfl ?_
  refine Rn.putI dX0_copyFrom_5 fp_X0_31_0 (by first | rfl | exact gC0 (by assumption) | exact gL0 (by assumption)) rfl ?_
  refine Rn.aload_n dX0_copyFrom_8 rfl rfl ?_
  refine Rn.aload_n dX0_copyFrom_9 rfl rfl ?_
  refine Rn.getI dX0_copyFrom_10 fd_X0_34_0 (by first | rfl | exact gC0 (by assumption) | exact gL0 (by assumption)) rfl ?_
  refine Rn.putI dX0_copyFrom_13 fp_X0_34_0 (by first | rfl | exact gC0 (by assumption) | exact gL0 (by assumption)) rfl ?_
  refine Rn.aload_n dX0_copyFrom_16 rfl rfl ?_
  refine Rn.aload_n dX0_copyFrom_17 rfl rfl ?_
  refine Rn.getI dX0_copyFrom_18 fd_X0_37_0 (by first | rfl | exact gC0 (by assumption) | exact gL0 (by assumption)) rfl ?_
  refine Rn.putI dX0_copyFrom_21 fp_X0_37_0 (by first | rfl | exact gC0 (by assumption) | exact gL0 (by assumption)) rfl ?_
  refine Rn.aload_n dX0_copyFrom_24 rfl rfl ?_
  refine Rn.aload_n dX0_copyFrom_25 rfl rfl ?_
  refine Rn.getI dX0_copyFrom_26 fd_X0_40_0 (by first | rfl | exact gC0 (by assumption) | exact gL0 (by assumption)) rfl ?_
  refine Rn.putI dX0_copyFrom_29 fp_X0_40_0 (by first | rfl | exact gC0 (by assumption) | exact gL0 (by assumption)) rfl ?_
  refine Rn.aload_n dX0_copyFrom_32 rfl rfl ?_
  refine Rn.aload_n dX0_copyFrom_33 rfl rfl ?_
  refine Rn.getI dX0_copyFrom_34 fd_X0_9_0 (by first | rfl | exact gC0 (by assumption) | exact gL0 (by assumption)) rfl ?_
  refine Rn.putI dX0_copyFrom_37 fp_X0_9_0 (by first | rfl | exact gC0 (by assumption) | exact gL0 (by assumption)) rfl ?_
  refine Rn.aload_n dX0_copyFrom_40 rfl rfl ?_
  refine Rn.aload_n dX0_copyFrom_41 rfl rfl ?_
  refine Rn.getI dX0_copyFrom_42 fd_X0_15_0 (by first | rfl | exact gC0 (by assumption) | exact gL0 (by assumption)) rfl ?_
  refine Rn.putI dX0_copyFrom_45 fp_X0_15_0 (by first | rfl | exact gC0 (by assumption) | exact gL0 (by assumption)) rfl ?_
  refine Rn.aload_n dX0_copyFrom_48 rfl rfl ?_
  refine Rn.aload_n dX0_copyFrom_49 rfl rfl ?_
  refine Rn.getI dX0_copyFrom_50 fd_X0_18_0 (by first | rfl | exact gC0 (by assumption) | exact gL0 (by assumption)) rfl ?_
  refine Rn.putI dX0_copyFrom_53 fp_X0_18_0 (by first | rfl | exact gC0 (by assumption) | exact gL0 (by assumption)) rfl ?_
  refine Rn.aload_n dX0_copyFrom_56 rfl rfl ?_
  refine Rn.aload_n dX0_copyFrom_57 rfl rfl ?_
  refine Rn.getI dX0_copyFrom_58 fd_X0_43_0 (by first | rfl | exact gC0 (by assumption) | exact gL0 (by assumption)) rfl ?_
  refine Rn.putI dX0_copyFrom_61 fp_X0_43_0 (by first | rfl | exact gC0 (by assumption) | exact gL0 (by assumption)) rfl ?_
  refine Rn.aload_n dX0_copyFrom_64 rfl rfl ?_
  refine Rn.aload_n dX0_copyFrom_65 rfl rfl ?_
  refine Rn.getI dX0_copyFrom_66 fd_X0_46_0 (by first | rfl | exact gC0 (by assumption) | exact gL0 (by assumption)) rfl ?_
  refine Rn.putI dX0_copyFrom_69 fp_X0_46_0 (by first | rfl | exact gC0 (by assumption) | exact gL0 (by assumption)) rfl ?_
  refine Rn.aload_n dX0_copyFrom_72 rfl rfl ?_
  refine Rn.getR dX0_copyFrom_73 fd_X0_21_0 (by first | rfl | exact gC0 (by assumption) | exact gL0 (by assumption)) rfl ?_
  refine Rn.iconst (v := (nI 0)) dX0_copyFrom_76 rfl ?_
  refine Rn.aload_n dX0_copyFrom_77 rfl rfl ?_
  refine Rn.getR dX0_copyFrom_78 fd_X0_21_0 (by first | rfl | exact gC0 (by assumption) | exact gL0 (by assumption)) rfl ?_
  refine Rn.iconst (v := (nI 0)) dX0_copyFrom_81 rfl ?_
  refine Rn.bipush (v := (nI 56)) dX0_copyFrom_82 rfl ?_
  refine Rn.acopy dX0_copyFrom_84 ac_X0_49 (by first | rfl | exact gC1 (by assumption) | exact gC2 (by assumption) | exact gC3 (by assumption) | exact gL1 (by assumption) | exact gL2 (by assumption) | exact gL3 (by assumption) | exact gL4 (by assumption) | exact gL5 (by assumption) | exact gL6 (by assumption)) (by first | rfl | exact gC1 (by assumption) | exact gC2 (by assumption) | exact gC3 (by assumption) | exact gL1 (by assumption) | exact gL2 (by assumption) | exact gL3 (by assumption) | exact gL4 (by assumption) | exact gL5 (by assumption) | exact gL6 (by assumption)) (by decide) (by decide) (by decide) (Nat.le_of_ble_eq_true rfl) ?_
  refine Rn.aload_n dX0_copyFrom_87 rfl rfl ?_
  refine Rn.getR dX0_copyFrom_88 fd_X0_25_0 (by first | rfl | exact gC0 (by assumption) | exact gL0 (by assumption)) rfl ?_
  refine Rn.iconst (v := (nI 0)) dX0_copyFrom_91 rfl ?_
  refine Rn.aload_n dX0_copyFrom_92 rfl rfl ?_
  refine Rn.getR dX0_copyFrom_93 fd_X0_25_0 (by first | rfl | exact gC0 (by assumption) | exact gL0 (by assumption)) rfl ?_
  refine Rn.iconst (v := (nI 0)) dX0_copyFrom_96 rfl ?_
  refine Rn.bipush (v := (nI 72)) dX0_copyFrom_97 rfl ?_
  refine Rn.acopy dX0_copyFrom_99 ac_X0_49 (by first | rfl | exact gC1 (by assumption) | exact gC2 (by assumption) | exact gC3 (by assumption) | exact gL1 (by assumption) | exact gL2 (by assumption) | exact gL3 (by assumption) | exact gL4 (by assumption) | exact gL5 (by assumption) | exact gL6 (by assumption)) (by first | rfl | exact gC1 (by assumption) | exact gC2 (by assumption) | exact gC3 (by assumption) | exact gL1 (by assumption) | exact gL2 (by assumption) | exact gL3 (by assumption) | exact gL4 (by assumption) | exact gL5 (by assumption) | exact gL6 (by assumption)) (by decide) (by decide) (by decide) (Nat.le_of_ble_eq_true rfl) ?_
  refine Rn.aload_n dX0_copyFrom_102 rfl rfl ?_
  refine Rn.getR dX0_copyFrom_103 fd_X0_28_0 (by first | rfl | exact gC0 (by assumption) | exact gL0 (by assumption)) rfl ?_
  refine Rn.iconst (v := (nI 0)) dX0_copyFrom_106 rfl ?_
  refine Rn.aload_n dX0_copyFrom_107 rfl rfl ?_
  refine Rn.getR dX0_copyFrom_108 fd_X0_28_0 (by first | rfl | exact gC0 (by assumption) | exact gL0 (by assumption)) rfl ?_
  refine Rn.iconst (v := (nI 0)) dX0_copyFrom_111 rfl ?_
  refine Rn.sipush (v := (nI 240)) dX0_copyFrom_112 rfl ?_
  refine Rn.acopy dX0_copyFrom_115 ac_X0_49 (by first | rfl | exact gC1 (by assumption) | exact gC2 (by assumption) | exact gC3 (by assumption) | exact gL1 (by assumption) | exact gL2 (by assumption) | exact gL3 (by assumption) | exact gL4 (by assumption) | exact gL5 (by assumption) | exact gL6 (by assumption)) (by first | rfl | exact gC1 (by assumption) | exact gC2 (by assumption) | exact gC3 (by assumption) | exact gL1 (by assumption) | exact gL2 (by assumption) | exact gL3 (by assumption) | exact gL4 (by assumption) | exact gL5 (by assumption) | exact gL6 (by assumption)) (by decide) (by decide) (by decide) (Nat.le_of_ble_eq_true rfl) ?_
  have f9 : ∀ j, j < 9 → j = 0 ∨ j = 1 ∨ j = 2 ∨ j = 3 ∨ j = 4 ∨ j = 5 ∨ j = 6 ∨ j = 7 ∨ j = 8 := fun j hj => by omega
  exact Rn.vret dX0_copyFrom_118 rfl (⟨rfl, fun j hj => by rcases f9 j hj with rfl | rfl | rfl | rfl | rfl | rfl | rfl | rfl | rfl <;> rfl, fun j hj => by rw [zset_ne _ _ (by decide), zset_at, cpy_in hj]; first | done | rfl, fun a ha => by rw [zset_ne _ _ (by omega), zset_ne _ _ (by omega), zset_ne _ _ (by omega), zup_ne _ _ (by omega), zup_ne _ _ (by omega), zup_ne _ _ (by omega), zup_ne _ _ (by omega), zup_ne _ _ (by omega), zup_ne _ _ (by omega), zup_ne _ _ (by omega), zup_ne _ _ (by omega), zup_ne _ _ (by omega)]⟩)
theorem ct_cp54_3 (I : Hi) : Ct G GAM mX0_copyFrom d 0 [.ref 3, .ref 54] I (Rv (fun v J => v = none ∧ (∀ j, j < 9 → J 3 j = I 54 j) ∧ (∀ j, j < 72 → J 5 j = I 56 j) ∧ ∀ a, ¬ (3 ≤ a ∧ a ≤ 6) → J a = I a)) := by
  refine Ct.mk [some (.ref 3), some (.ref 54)] ?_
  refine Rn.aload_n dX0_copyFrom_0 rfl rfl ?_
  refine Rn.aload_n dX0_copyFrom_1 rfl rfl ?_
  refine Rn.getI dX0_copyFrom_2 fd_X0_31_0 (by first | rfl | exact gC0 (by assumption) | exact gL0 (by assumption)) rfl ?_
  refine Rn.putI dX0_copyFrom_5 fp_X0_31_0 (by first | rfl | exact gC0 (by assumption) | exact gL0 (by assumption)) rfl ?_
  refine Rn.aload_n dX0_copyFrom_8 rfl rfl ?_
  refine Rn.aload_n dX0_copyFrom_9 rfl rfl ?_
  refine Rn.getI dX0_copyFrom_10 fd_X0_34_0 (by first | rfl | exact gC0 (by assumption) | exact gL0 (by assumption)) rfl ?_
  refine Rn.putI dX0_copyFrom_13 fp_X0_34_0 (by first | rfl | exact gC0 (by assumption) | exact gL0 (by assumption)) rfl ?_
  refine Rn.aload_n dX0_copyFrom_16 rfl rfl ?_
  refine Rn.aload_n dX0_copyFrom_17 rfl rfl ?_
  refine Rn.getI dX0_copyFrom_18 fd_X0_37_0 (by first | rfl | exact gC0 (by assumption) | exact gL0 (by assumption)) rfl ?_
  refine Rn.putI dX0_copyFrom_21 fp_X0_37_0 (by first | rfl | exact gC0 (by assumption) | exact gL0 (by assumption)) rfl ?_
  refine Rn.aload_n dX0_copyFrom_24 rfl rfl ?_
  refine Rn.aload_n dX0_copyFrom_25 rfl rfl ?_
  refine Rn.getI dX0_copyFrom_26 fd_X0_40_0 (by first | rfl | exact gC0 (by assumption) | exact gL0 (by assumption)) rfl ?_
  refine Rn.putI dX0_copyFrom_29 fp_X0_40_0 (by first | rfl | exact gC0 (by assumption) | exact gL0 (by assumption)) rfl ?_
  refine Rn.aload_n dX0_copyFrom_32 rfl rfl ?_
  refine Rn.aload_n dX0_copyFrom_33 rfl rfl ?_
  refine Rn.getI dX0_copyFrom_34 fd_X0_9_0 (by first | rfl | exact gC0 (by assumption) | exact gL0 (by assumption)) rfl ?_
  refine Rn.putI dX0_copyFrom_37 fp_X0_9_0 (by first | rfl | exact gC0 (by assumption) | exact gL0 (by assumption)) rfl ?_
  refine Rn.aload_n dX0_copyFrom_40 rfl rfl ?_
  refine Rn.aload_n dX0_copyFrom_41 rfl rfl ?_
  refine Rn.getI dX0_copyFrom_42 fd_X0_15_0 (by first | rfl | exact gC0 (by assumption) | exact gL0 (by assumption)) rfl ?_
  refine Rn.putI dX0_copyFrom_45 fp_X0_15_0 (by first | rfl | exact gC0 (by assumption) | exact gL0 (by assumption)) rfl ?_
  refine Rn.aload_n dX0_copyFrom_48 rfl rfl ?_
  refine Rn.aload_n dX0_copyFrom_49 rfl rfl ?_
  refine Rn.getI dX0_copyFrom_50 fd_X0_18_0 (by first | rfl | exact gC0 (by assumption) | exact gL0 (by assumption)) rfl ?_
  refine Rn.putI dX0_copyFrom_53 fp_X0_18_0 (by first | rfl | exact gC0 (by assumption) | exact gL0 (by assumption)) rfl ?_
  refine Rn.aload_n dX0_copyFrom_56 rfl rfl ?_
  refine Rn.aload_n dX0_copyFrom_57 rfl rfl ?_
  refine Rn.getI dX0_copyFrom_58 fd_X0_43_0 (by first | rfl | exact gC0 (by assumption) | exact gL0 (by assumption)) rfl ?_
  refine Rn.putI dX0_copyFrom_61 fp_X0_43_0 (by first | rfl | exact gC0 (by assumption) | exact gL0 (by assumption)) rfl ?_
  refine Rn.aload_n dX0_copyFrom_64 rfl rfl ?_
  refine Rn.aload_n dX0_copyFrom_65 rfl rfl ?_
  refine Rn.getI dX0_copyFrom_66 fd_X0_46_0 (by first | rfl | exact gC0 (by assumption) | exact gL0 (by assumption)) rfl ?_
  refine Rn.putI dX0_copyFrom_69 fp_X0_46_0 (by first | rfl | exact gC0 (by assumption) | exact gL0 (by assumption)) rfl ?_
  refine Rn.aload_n dX0_copyFrom_72 rfl rfl ?_
  refine Rn.getR dX0_copyFrom_73 fd_X0_21_0 (by first | rfl | exact gC0 (by assumption) | exact gL0 (by assumption)) rfl ?_
  refine Rn.iconst (v := (nI 0)) dX0_copyFrom_76 rfl ?_
  refine Rn.aload_n dX0_copyFrom_77 rfl rfl ?_
  refine Rn.getR dX0_copyFrom_78 fd_X0_21_0 (by first | rfl | exact gC0 (by assumption) | exact gL0 (by assumption)) rfl ?_
  refine Rn.iconst (v := (nI 0)) dX0_copyFrom_81 rfl ?_
  refine Rn.bipush (v := (nI 56)) dX0_copyFrom_82 rfl ?_
  refine Rn.acopy dX0_copyFrom_84 ac_X0_49 (by first | rfl | exact gC1 (by assumption) | exact gC2 (by assumption) | exact gC3 (by assumption) | exact gL1 (by assumption) | exact gL2 (by assumption) | exact gL3 (by assumption) | exact gL4 (by assumption) | exact gL5 (by assumption) | exact gL6 (by assumption)) (by first | rfl | exact gC1 (by assumption) | exact gC2 (by assumption) | exact gC3 (by assumption) | exact gL1 (by assumption) | exact gL2 (by assumption) | exact gL3 (by assumption) | exact gL4 (by assumption) | exact gL5 (by assumption) | exact gL6 (by assumption)) (by decide) (by decide) (by decide) (Nat.le_of_ble_eq_true rfl) ?_
  refine Rn.aload_n dX0_copyFrom_87 rfl rfl ?_
  refine Rn.getR dX0_copyFrom_88 fd_X0_25_0 (by first | rfl | exact gC0 (by assumption) | exact gL0 (by assumption)) rfl ?_
  refine Rn.iconst (v := (nI 0)) dX0_copyFrom_91 rfl ?_
  refine Rn.aload_n dX0_copyFrom_92 rfl rfl ?_
  refine Rn.getR dX0_copyFrom_93 fd_X0_25_0 (by first | rfl | exact gC0 (by assumption) | exact gL0 (by assumption)) rfl ?_
  refine Rn.iconst (v := (nI 0)) dX0_copyFrom_96 rfl ?_
  refine Rn.bipush (v := (nI 72)) dX0_copyFrom_97 rfl ?_
  refine Rn.acopy dX0_copyFrom_99 ac_X0_49 (by first | rfl | exact gC1 (by assumption) | exact gC2 (by assumption) | exact gC3 (by assumption) | exact gL1 (by assumption) | exact gL2 (by assumption) | exact gL3 (by assumption) | exact gL4 (by assumption) | exact gL5 (by assumption) | exact gL6 (by assumption)) (by first | rfl | exact gC1 (by assumption) | exact gC2 (by assumption) | exact gC3 (by assumption) | exact gL1 (by assumption) | exact gL2 (by assumption) | exact gL3 (by assumption) | exact gL4 (by assumption) | exact gL5 (by assumption) | exact gL6 (by assumption)) (by decide) (by decide) (by decide) (Nat.le_of_ble_eq_true rfl) ?_
  refine Rn.aload_n dX0_copyFrom_102 rfl rfl ?_
  refine Rn.getR dX0_copyFrom_103 fd_X0_28_0 (by first | rfl | exact gC0 (by assumption) | exact gL0 (by assumption)) rfl ?_
  refine Rn.iconst (v := (nI 0)) dX0_copyFrom_106 rfl ?_
  refine Rn.aload_n dX0_copyFrom_107 rfl rfl ?_
  refine Rn.getR dX0_copyFrom_108 fd_X0_28_0 (by first | rfl | exact gC0 (by assumption) | exact gL0 (by assumption)) rfl ?_
  refine Rn.iconst (v := (nI 0)) dX0_copyFrom_111 rfl ?_
  refine Rn.sipush (v := (nI 240)) dX0_copyFrom_112 rfl ?_
  refine Rn.acopy dX0_copyFrom_115 ac_X0_49 (by first | rfl | exact gC1 (by assumption) | exact gC2 (by assumption) | exact gC3 (by assumption) | exact gL1 (by assumption) | exact gL2 (by assumption) | exact gL3 (by assumption) | exact gL4 (by assumption) | exact gL5 (by assumption) | exact gL6 (by assumption)) (by first | rfl | exact gC1 (by assumption) | exact gC2 (by assumption) | exact gC3 (by assumption) | exact gL1 (by assumption) | exact gL2 (by assumption) | exact gL3 (by assumption) | exact gL4 (by assumption) | exact gL5 (by assumption) | exact gL6 (by assumption)) (by decide) (by decide) (by decide) (Nat.le_of_ble_eq_true rfl) ?_
  have f9 : ∀ j, j < 9 → j = 0 ∨ j = 1 ∨ j = 2 ∨ j = 3 ∨ j = 4 ∨ j = 5 ∨ j = 6 ∨ j = 7 ∨ j = 8 := fun j hj => by omega
  exact Rn.vret dX0_copyFrom_118 rfl (⟨rfl, fun j hj => by rcases f9 j hj with rfl | rfl | rfl | rfl | rfl | rfl | rfl | rfl | rfl <;> rfl, fun j hj => by rw [zset_ne _ _ (by decide), zset_at, cpy_in hj]; first | done | rfl, fun a ha => by rw [zset_ne _ _ (by omega), zset_ne _ _ (by omega), zset_ne _ _ (by omega), zup_ne _ _ (by omega), zup_ne _ _ (by omega), zup_ne _ _ (by omega), zup_ne _ _ (by omega), zup_ne _ _ (by omega), zup_ne _ _ (by omega), zup_ne _ _ (by omega), zup_ne _ _ (by omega), zup_ne _ _ (by omega)]⟩)
theorem ct_cp58_3 (I : Hi) : Ct G GAM mX0_copyFrom d 0 [.ref 3, .ref 58] I (Rv (fun v J => v = none ∧ (∀ j, j < 9 → J 3 j = I 58 j) ∧ (∀ j, j < 72 → J 5 j = I 60 j) ∧ ∀ a, ¬ (3 ≤ a ∧ a ≤ 6) → J a = I a)) := by
  refine Ct.mk [some (.ref 3), some (.ref 58)] ?_
  refine Rn.aload_n dX0_copyFrom_0 rfl rfl ?_
  refine Rn.aload_n dX0_copyFrom_1 rfl rfl ?_
  refine Rn.getI dX0_copyFrom_2 fd_X0_31_0 (by first | rfl | exact gC0 (by assumption) | exact gL0 (by assumption)) rfl ?_
  refine Rn.putI dX0_copyFrom_5 fp_X0_31_0 (by first | rfl | exact gC0 (by assumption) | exact gL0 (by assumption)) rfl ?_
  refine Rn.aload_n dX0_copyFrom_8 rfl rfl ?_
  refine Rn.aload_n dX0_copyFrom_9 rfl rfl ?_
  refine Rn.getI dX0_copyFrom_10 fd_X0_34_0 (by first | rfl | exact gC0 (by assumption) | exact gL0 (by assumption)) rfl ?_
  refine Rn.putI dX0_copyFrom_13 fp_X0_34_0 (by first | rfl | exact gC0 (by assumption) | exact gL0 (by assumption)) rfl ?_
  refine Rn.aload_n dX0_copyFrom_16 rfl rfl ?_
  refine Rn.aload_n dX0_copyFrom_17 rfl rfl ?_
  refine Rn.getI dX0_copyFrom_18 fd_X0_37_0 (by first | rfl | exact gC0 (by assumption) | exact gL0 (by assumption)) rfl ?_
  refine Rn.putI dX0_copyFrom_21 fp_X0_37_0 (by first | rfl | exact gC0 (by assumption) | exact gL0 (by assumption)) rfl ?_
  refine Rn.aload_n dX0_copyFrom_24 rfl rfl ?_
  refine Rn.aload_n dX0_copyFrom_25 rfl rfl ?_
  refine Rn.getI dX0_copyFrom_26 fd_X0_40_0 (by first | rfl | exact gC0 (by assumption) | exact gL0 (by assumption)) rfl ?_
  refine Rn.putI dX0_copyFrom_29 fp_X0_40_0 (by first | rfl | exact gC0 (by assumption) | exact gL0 (by assumption)) rfl ?_
  refine Rn.aload_n dX0_copyFrom_32 rfl rfl ?_
  refine Rn.aload_n dX0_copyFrom_33 rfl rfl ?_
  refine Rn.getI dX0_copyFrom_34 fd_X0_9_0 (by first | rfl | exact gC0 (by assumption) | exact gL0 (by assumption)) rfl ?_
  refine Rn.putI dX0_copyFrom_37 fp_X0_9_0 (by first | rfl | exact gC0 (by assumption) | exact gL0 (by assumption)) rfl ?_
  refine Rn.aload_n dX0_copyFrom_40 rfl rfl ?_
  refine Rn.aload_n dX0_copyFrom_41 rfl rfl ?_
  refine Rn.getI dX0_copyFrom_42 fd_X0_15_0 (by first | rfl | exact gC0 (by assumption) | exact gL0 (by assumption)) rfl ?_
  refine Rn.putI dX0_copyFrom_45 fp_X0_15_0 (by first | rfl | exact gC0 (by assumption) | exact gL0 (by assumption)) rfl ?_
  refine Rn.aload_n dX0_copyFrom_48 rfl rfl ?_
  refine Rn.aload_n dX0_copyFrom_49 rfl rfl ?_
  refine Rn.getI dX0_copyFrom_50 fd_X0_18_0 (by first | rfl | exact gC0 (by assumption) | exact gL0 (by assumption)) rfl ?_
  refine Rn.putI dX0_copyFrom_53 fp_X0_18_0 (by first | rfl | exact gC0 (by assumption) | exact gL0 (by assumption)) rfl ?_
  refine Rn.aload_n dX0_copyFrom_56 rfl rfl ?_
  refine Rn.aload_n dX0_copyFrom_57 rfl rfl ?_
  refine Rn.getI dX0_copyFrom_58 fd_X0_43_0 (by first | rfl | exact gC0 (by assumption) | exact gL0 (by assumption)) rfl ?_
  refine Rn.putI dX0_copyFrom_61 fp_X0_43_0 (by first | rfl | exact gC0 (by assumption) | exact gL0 (by assumption)) rfl ?_
  refine Rn.aload_n dX0_copyFrom_64 rfl rfl ?_
  refine Rn.aload_n dX0_copyFrom_65 rfl rfl ?_
  refine Rn.getI dX0_copyFrom_66 fd_X0_46_0 (by first | rfl | exact gC0 (by assumption) | exact gL0 (by assumption)) rfl ?_
  refine Rn.putI dX0_copyFrom_69 fp_X0_46_0 (by first | rfl | exact gC0 (by assumption) | exact gL0 (by assumption)) rfl ?_
  refine Rn.aload_n dX0_copyFrom_72 rfl rfl ?_
  refine Rn.getR dX0_copyFrom_73 fd_X0_21_0 (by first | rfl | exact gC0 (by assumption) | exact gL0 (by assumption)) rfl ?_
  refine Rn.iconst (v := (nI 0)) dX0_copyFrom_76 rfl ?_
  refine Rn.aload_n dX0_copyFrom_77 rfl rfl ?_
  refine Rn.getR dX0_copyFrom_78 fd_X0_21_0 (by first | rfl | exact gC0 (by assumption) | exact gL0 (by assumption)) rfl ?_
  refine Rn.iconst (v := (nI 0)) dX0_copyFrom_81 rfl ?_
  refine Rn.bipush (v := (nI 56)) dX0_copyFrom_82 rfl ?_
  refine Rn.acopy dX0_copyFrom_84 ac_X0_49 (by first | rfl | exact gC1 (by assumption) | exact gC2 (by assumption) | exact gC3 (by assumption) | exact gL1 (by assumption) | exact gL2 (by assumption) | exact gL3 (by assumption) | exact gL4 (by assumption) | exact gL5 (by assumption) | exact gL6 (by assumption)) (by first | rfl | exact gC1 (by assumption) | exact gC2 (by assumption) | exact gC3 (by assumption) | exact gL1 (by assumption) | exact gL2 (by assumption) | exact gL3 (by assumption) | exact gL4 (by assumption) | exact gL5 (by assumption) | exact gL6 (by assumption)) (by decide) (by decide) (by decide) (Nat.le_of_ble_eq_true rfl) ?_
  refine Rn.aload_n dX0_copyFrom_87 rfl rfl ?_
  refine Rn.getR dX0_copyFrom_88 fd_X0_25_0 (by first | rfl | exact gC0 (by assumption) | exact gL0 (by assumption)) rfl ?_
  refine Rn.iconst (v := (nI 0)) dX0_copyFrom_91 rfl ?_
  refine Rn.aload_n dX0_copyFrom_92 rfl rfl ?_
  refine Rn.getR dX0_copyFrom_93 fd_X0_25_0 (by first | rfl | exact gC0 (by assumption) | exact gL0 (by assumption)) rfl ?_
  refine Rn.iconst (v := (nI 0)) dX0_copyFrom_96 rfl ?_
  refine Rn.bipush (v := (nI 72)) dX0_copyFrom_97 rfl ?_
  refine Rn.acopy dX0_copyFrom_99 ac_X0_49 (by first | rfl | exact gC1 (by assumption) | exact gC2 (by assumption) | exact gC3 (by assumption) | exact gL1 (by assumption) | exact gL2 (by assumption) | exact gL3 (by assumption) | exact gL4 (by assumption) | exact gL5 (by assumption) | exact gL6 (by assumption)) (by first | rfl | exact gC1 (by assumption) | exact gC2 (by assumption) | exact gC3 (by assumption) | exact gL1 (by assumption) | exact gL2 (by assumption) | exact gL3 (by assumption) | exact gL4 (by assumption) | exact gL5 (by assumption) | exact gL6 (by assumption)) (by decide) (by decide) (by decide) (Nat.le_of_ble_eq_true rfl) ?_
  refine Rn.aload_n dX0_copyFrom_102 rfl rfl ?_
  refine Rn.getR dX0_copyFrom_103 fd_X0_28_0 (by first | rfl | exact gC0 (by assumption) | exact gL0 (by assumption)) rfl ?_
  refine Rn.iconst (v := (nI 0)) dX0_copyFrom_106 rfl ?_
  refine Rn.aload_n dX0_copyFrom_107 rfl rfl ?_
  refine Rn.getR dX0_copyFrom_108 fd_X0_28_0 (by first | rfl | exact gC0 (by assumption) | exact gL0 (by assumption)) rfl ?_
  refine Rn.iconst (v := (nI 0)) dX0_copyFrom_111 rfl ?_
  refine Rn.sipush (v := (nI 240)) dX0_copyFrom_112 rfl ?_
  refine Rn.acopy dX0_copyFrom_115 ac_X0_49 (by first | rfl | exact gC1 (by assumption) | exact gC2 (by assumption) | exact gC3 (by assumption) | exact gL1 (by assumption) | exact gL2 (by assumption) | exact gL3 (by assumption) | exact gL4 (by assumption) | exact gL5 (by assumption) | exact gL6 (by assumption)) (by first | rfl | exact gC1 (by assumption) | exact gC2 (by assumption) | exact gC3 (by assumption) | exact gL1 (by assumption) | exact gL2 (by assumption) | exact gL3 (by assumption) | exact gL4 (by assumption) | exact gL5 (by assumption) | exact gL6 (by assumption)) (by decide) (by decide) (by decide) (Nat.le_of_ble_eq_true rfl) ?_
  have f9 : ∀ j, j < 9 → j = 0 ∨ j = 1 ∨ j = 2 ∨ j = 3 ∨ j = 4 ∨ j = 5 ∨ j = 6 ∨ j = 7 ∨ j = 8 := fun j hj => by omega
  exact Rn.vret dX0_copyFrom_118 rfl (⟨rfl, fun j hj => by rcases f9 j hj with rfl | rfl | rfl | rfl | rfl | rfl | rfl | rfl | rfl <;> rfl, fun j hj => by rw [zset_ne _ _ (by decide), zset_at, cpy_in hj]; first | done | rfl, fun a ha => by rw [zset_ne _ _ (by omega), zset_ne _ _ (by omega), zset_ne _ _ (by omega), zup_ne _ _ (by omega), zup_ne _ _ (by omega), zup_ne _ _ (by omega), zup_ne _ _ (by omega), zup_ne _ _ (by omega), zup_ne _ _ (by omega), zup_ne _ _ (by omega), zup_ne _ _ (by omega), zup_ne _ _ (by omega)]⟩)
theorem ct_cp62_3 (I : Hi) : Ct G GAM mX0_copyFrom d 0 [.ref 3, .ref 62] I (Rv (fun v J => v = none ∧ (∀ j, j < 9 → J 3 j = I 62 j) ∧ (∀ j, j < 72 → J 5 j = I 64 j) ∧ ∀ a, ¬ (3 ≤ a ∧ a ≤ 6) → J a = I a)) := by
  refine Ct.mk [some (.ref 3), some (.ref 62)] ?_
  refine Rn.aload_n dX0_copyFrom_0 rfl rfl ?_
  refine Rn.aload_n dX0_copyFrom_1 rfl rfl ?_
  refine Rn.getI dX0_copyFrom_2 fd_X0_31_0 (by first | rfl | exact gC0 (by assumption) | exact gL0 (by assumption)) rfl ?_
  refine Rn.putI dX0_copyFrom_5 fp_X0_31_0 (by first | rfl | exact gC0 (by assumption) | exact gL0 (by assumption)) rfl ?_
  refine Rn.aload_n dX0_copyFrom_8 rfl rfl ?_
  refine Rn.aload_n dX0_copyFrom_9 rfl rfl ?_
  refine Rn.getI dX0_copyFrom_10 fd_X0_34_0 (by first | rfl | exact gC0 (by assumption) | exact gL0 (by assumption)) rfl ?_
  refine Rn.putI dX0_copyFrom_13 fp_X0_34_0 (by first | rfl | exact gC0 (by assumption) | exact gL0 (by assumption)) rfl ?_
  refine Rn.aload_n dX0_copyFrom_16 rfl rfl ?_
  refine Rn.aload_n dX0_copyFrom_17 rfl rfl ?_
  refine Rn.getI dX0_copyFrom_18 fd_X0_37_0 (by first | rfl | exact gC0 (by assumption) | exact gL0 (by assumption)) rfl ?_
  refine Rn.putI dX0_copyFrom_21 fp_X0_37_0 (by first | rfl | exact gC0 (by assumption) | exact gL0 (by assumption)) rfl ?_
  refine Rn.aload_n dX0_copyFrom_24 rfl rfl ?_
  refine Rn.aload_n dX0_copyFrom_25 rfl rfl ?_
  refine Rn.getI dX0_copyFrom_26 fd_X0_40_0 (by first | rfl | exact gC0 (by assumption) | exact gL0 (by assumption)) rfl ?_
  refine Rn.putI dX0_copyFrom_29 fp_X0_40_0 (by first | rfl | exact gC0 (by assumption) | exact gL0 (by assumption)) rfl ?_
  refine Rn.aload_n dX0_copyFrom_32 rfl rfl ?_
  refine Rn.aload_n dX0_copyFrom_33 rfl rfl ?_
  refine Rn.getI dX0_copyFrom_34 fd_X0_9_0 (by first | rfl | exact gC0 (by assumption) | exact gL0 (by assumption)) rfl ?_
  refine Rn.putI dX0_copyFrom_37 fp_X0_9_0 (by first | rfl | exact gC0 (by assumption) | exact gL0 (by assumption)) rfl ?_
  refine Rn.aload_n dX0_copyFrom_40 rfl rfl ?_
  refine Rn.aload_n dX0_copyFrom_41 rfl rfl ?_
  refine Rn.getI dX0_copyFrom_42 fd_X0_15_0 (by first | rfl | exact gC0 (by assumption) | exact gL0 (by assumption)) rfl ?_
  refine Rn.putI dX0_copyFrom_45 fp_X0_15_0 (by first | rfl | exact gC0 (by assumption) | exact gL0 (by assumption)) rfl ?_
  refine Rn.aload_n dX0_copyFrom_48 rfl rfl ?_
  refine Rn.aload_n dX0_copyFrom_49 rfl rfl ?_
  refine Rn.getI dX0_copyFrom_50 fd_X0_18_0 (by first | rfl | exact gC0 (by assumption) | exact gL0 (by assumption)) rfl ?_
  refine Rn.putI dX0_copyFrom_53 fp_X0_18_0 (by first | rfl | exact gC0 (by assumption) | exact gL0 (by assumption)) rfl ?_
  refine Rn.aload_n dX0_copyFrom_56 rfl rfl ?_
  refine Rn.aload_n dX0_copyFrom_57 rfl rfl ?_
  refine Rn.getI dX0_copyFrom_58 fd_X0_43_0 (by first | rfl | exact gC0 (by assumption) | exact gL0 (by assumption)) rfl ?_
  refine Rn.putI dX0_copyFrom_61 fp_X0_43_0 (by first | rfl | exact gC0 (by assumption) | exact gL0 (by assumption)) rfl ?_
  refine Rn.aload_n dX0_copyFrom_64 rfl rfl ?_
  refine Rn.aload_n dX0_copyFrom_65 rfl rfl ?_
  refine Rn.getI dX0_copyFrom_66 fd_X0_46_0 (by first | rfl | exact gC0 (by assumption) | exact gL0 (by assumption)) rfl ?_
  refine Rn.putI dX0_copyFrom_69 fp_X0_46_0 (by first | rfl | exact gC0 (by assumption) | exact gL0 (by assumption)) rfl ?_
  refine Rn.aload_n dX0_copyFrom_72 rfl rfl ?_
  refine Rn.getR dX0_copyFrom_73 fd_X0_21_0 (by first | rfl | exact gC0 (by assumption) | exact gL0 (by assumption)) rfl ?_
  refine Rn.iconst (v := (nI 0)) dX0_copyFrom_76 rfl ?_
  refine Rn.aload_n dX0_copyFrom_77 rfl rfl ?_
  refine Rn.getR dX0_copyFrom_78 fd_X0_21_0 (by first | rfl | exact gC0 (by assumption) | exact gL0 (by assumption)) rfl ?_
  refine Rn.iconst (v := (nI 0)) dX0_copyFrom_81 rfl ?_
  refine Rn.bipush (v := (nI 56)) dX0_copyFrom_82 rfl ?_
  refine Rn.acopy dX0_copyFrom_84 ac_X0_49 (by first | rfl | exact gC1 (by assumption) | exact gC2 (by assumption) | exact gC3 (by assumption) | exact gL1 (by assumption) | exact gL2 (by assumption) | exact gL3 (by assumption) | exact gL4 (by assumption) | exact gL5 (by assumption) | exact gL6 (by assumption)) (by first | rfl | exact gC1 (by assumption) | exact gC2 (by assumption) | exact gC3 (by assumption) | exact gL1 (by assumption) | exact gL2 (by assumption) | exact gL3 (by assumption) | exact gL4 (by assumption) | exact gL5 (by assumption) | exact gL6 (by assumption)) (by decide) (by decide) (by decide) (Nat.le_of_ble_eq_true rfl) ?_
  refine Rn.aload_n dX0_copyFrom_87 rfl rfl ?_
  refine Rn.getR dX0_copyFrom_88 fd_X0_25_0 (by first | rfl | exact gC0 (by assumption) | exact gL0 (by assumption)) rfl ?_
  refine Rn.iconst (v := (nI 0)) dX0_copyFrom_91 rfl ?_
  refine Rn.aload_n dX0_copyFrom_92 rfl rfl ?_
  refine Rn.getR dX0_copyFrom_93 fd_X0_25_0 (by first | rfl | exact gC0 (by assumption) | exact gL0 (by assumption)) rfl ?_
  refine Rn.iconst (v := (nI 0)) dX0_copyFrom_96 rfl ?_
  refine Rn.bipush (v := (nI 72)) dX0_copyFrom_97 rfl ?_
  refine Rn.acopy dX0_copyFrom_99 ac_X0_49 (by first | rfl | exact gC1 (by assumption) | exact gC2 (by assumption) | exact gC3 (by assumption) | exact gL1 (by assumption) | exact gL2 (by assumption) | exact gL3 (by assumption) | exact gL4 (by assumption) | exact gL5 (by assumption) | exact gL6 (by assumption)) (by first | rfl | exact gC1 (by assumption) | exact gC2 (by assumption) | exact gC3 (by assumption) | exact gL1 (by assumption) | exact gL2 (by assumption) | exact gL3 (by assumption) | exact gL4 (by assumption) | exact gL5 (by assumption) | exact gL6 (by assumption)) (by decide) (by decide) (by decide) (Nat.le_of_ble_eq_true rfl) ?_
  refine Rn.aload_n dX0_copyFrom_102 rfl rfl ?_
  refine Rn.getR dX0_copyFrom_103 fd_X0_28_0 (by first | rfl | exact gC0 (by assumption) | exact gL0 (by assumption)) rfl ?_
  refine Rn.iconst (v := (nI 0)) dX0_copyFrom_106 rfl ?_
  refine Rn.aload_n dX0_copyFrom_107 rfl rfl ?_
  refine Rn.getR dX0_copyFrom_108 fd_X0_28_0 (by first | rfl | exact gC0 (by assumption) | exact gL0 (by assumption)) rfl ?_
  refine Rn.iconst (v := (nI 0)) dX0_copyFrom_111 rfl ?_
  refine Rn.sipush (v := (nI 240)) dX0_copyFrom_112 rfl ?_
  refine Rn.acopy dX0_copyFrom_115 ac_X0_49 (by first | rfl | exact gC1 (by assumption) | exact gC2 (by assumption) | exact gC3 (by assumption) | exact gL1 (by assumption) | exact gL2 (by assumption) | exact gL3 (by assumption) | exact gL4 (by assumption) | exact gL5 (by assumption) | exact gL6 (by assumption)) (by first | rfl | exact gC1 (by assumption) | exact gC2 (by assumption) | exact gC3 (by assumption) | exact gL1 (by assumption) | exact gL2 (by assumption) | exact gL3 (by assumption) | exact gL4 (by assumption) | exact gL5 (by assumption) | exact gL6 (by assumption)) (by decide) (by decide) (by decide) (Nat.le_of_ble_eq_true rfl) ?_
  have f9 : ∀ j, j < 9 → j = 0 ∨ j = 1 ∨ j = 2 ∨ j = 3 ∨ j = 4 ∨ j = 5 ∨ j = 6 ∨ j = 7 ∨ j = 8 := fun j hj => by omega
  exact Rn.vret dX0_copyFrom_118 rfl (⟨rfl, fun j hj => by rcases f9 j hj with rfl | rfl | rfl | rfl | rfl | rfl | rfl | rfl | rfl <;> rfl, fun j hj => by rw [zset_ne _ _ (by decide), zset_at, cpy_in hj]; first | done | rfl, fun a ha => by rw [zset_ne _ _ (by omega), zset_ne _ _ (by omega), zset_ne _ _ (by omega), zup_ne _ _ (by omega), zup_ne _ _ (by omega), zup_ne _ _ (by omega), zup_ne _ _ (by omega), zup_ne _ _ (by omega), zup_ne _ _ (by omega), zup_ne _ _ (by omega), zup_ne _ _ (by omega), zup_ne _ _ (by omega)]⟩)
theorem ct_cp66_3 (I : Hi) : Ct G GAM mX0_copyFrom d 0 [.ref 3, .ref 66] I (Rv (fun v J => v = none ∧ (∀ j, j < 9 → J 3 j = I 66 j) ∧ (∀ j, j < 72 → J 5 j = I 68 j) ∧ ∀ a, ¬ (3 ≤ a ∧ a ≤ 6) → J a = I a)) := by
  refine Ct.mk [some (.ref 3), some (.ref 66)] ?_
  refine Rn.aload_n dX0_copyFrom_0 rfl rfl ?_
  refine Rn.aload_n dX0_copyFrom_1 rfl rfl ?_
  refine Rn.getI dX0_copyFrom_2 fd_X0_31_0 (by first | rfl | exact gC0 (by assumption) | exact gL0 (by assumption)) rfl ?_
  refine Rn.putI dX0_copyFrom_5 fp_X0_31_0 (by first | rfl | exact gC0 (by assumption) | exact gL0 (by assumption)) rfl ?_
  refine Rn.aload_n dX0_copyFrom_8 rfl rfl ?_
  refine Rn.aload_n dX0_copyFrom_9 rfl rfl ?_
  refine Rn.getI dX0_copyFrom_10 fd_X0_34_0 (by first | rfl | exact gC0 (by assumption) | exact gL0 (by assumption)) rfl ?_
  refine Rn.putI dX0_copyFrom_13 fp_X0_34_0 (by first | rfl | exact gC0 (by assumption) | exact gL0 (by assumption)) rfl ?_
  refine Rn.aload_n dX0_copyFrom_16 rfl rfl ?_
  refine Rn.aload_n dX0_copyFrom_17 rfl rfl ?_
  refine Rn.getI dX0_copyFrom_18 fd_X0_37_0 (by first | rfl | exact gC0 (by assumption) | exact gL0 (by assumption)) rfl ?_
  refine Rn.putI dX0_copyFrom_21 fp_X0_37_0 (by first | rfl | exact gC0 (by assumption) | exact gL0 (by assumption)) rfl ?_
  refine Rn.aload_n dX0_copyFrom_24 rfl rfl ?_
  refine Rn.aload_n dX0_copyFrom_25 rfl rfl ?_
  refine Rn.getI dX0_copyFrom_26 fd_X0_40_0 (by first | rfl | exact gC0 (by assumption) | exact gL0 (by assumption)) rfl ?_
  refine Rn.putI dX0_copyFrom_29 fp_X0_40_0 (by first | rfl | exact gC0 (by assumption) | exact gL0 (by assumption)) rfl ?_
  refine Rn.aload_n dX0_copyFrom_32 rfl rfl ?_
  refine Rn.aload_n dX0_copyFrom_33 rfl rfl ?_
  refine Rn.getI dX0_copyFrom_34 fd_X0_9_0 (by first | rfl | exact gC0 (by assumption) | exact gL0 (by assumption)) rfl ?_
  refine Rn.putI dX0_copyFrom_37 fp_X0_9_0 (by first | rfl | exact gC0 (by assumption) | exact gL0 (by assumption)) rfl ?_
  refine Rn.aload_n dX0_copyFrom_40 rfl rfl ?_
  refine Rn.aload_n dX0_copyFrom_41 rfl rfl ?_
  refine Rn.getI dX0_copyFrom_42 fd_X0_15_0 (by first | rfl | exact gC0 (by assumption) | exact gL0 (by assumption)) rfl ?_
  refine Rn.putI dX0_copyFrom_45 fp_X0_15_0 (by first | rfl | exact gC0 (by assumption) | exact gL0 (by assumption)) rfl ?_
  refine Rn.aload_n dX0_copyFrom_48 rfl rfl ?_
  refine Rn.aload_n dX0_copyFrom_49 rfl rfl ?_
  refine Rn.getI dX0_copyFrom_50 fd_X0_18_0 (by first | rfl | exact gC0 (by assumption) | exact gL0 (by assumption)) rfl ?_
  refine Rn.putI dX0_copyFrom_53 fp_X0_18_0 (by first | rfl | exact gC0 (by assumption) | exact gL0 (by assumption)) rfl ?_
  refine Rn.aload_n dX0_copyFrom_56 rfl rfl ?_
  refine Rn.aload_n dX0_copyFrom_57 rfl rfl ?_
  refine Rn.getI dX0_copyFrom_58 fd_X0_43_0 (by first | rfl | exact gC0 (by assumption) | exact gL0 (by assumption)) rfl ?_
  refine Rn.putI dX0_copyFrom_61 fp_X0_43_0 (by first | rfl | exact gC0 (by assumption) | exact gL0 (by assumption)) rfl ?_
  refine Rn.aload_n dX0_copyFrom_64 rfl rfl ?_
  refine Rn.aload_n dX0_copyFrom_65 rfl rfl ?_
  refine Rn.getI dX0_copyFrom_66 fd_X0_46_0 (by first | rfl | exact gC0 (by assumption) | exact gL0 (by assumption)) rfl ?_
  refine Rn.putI dX0_copyFrom_69 fp_X0_46_0 (by first | rfl | exact gC0 (by assumption) | exact gL0 (by assumption)) rfl ?_
  refine Rn.aload_n dX0_copyFrom_72 rfl rfl ?_
  refine Rn.getR dX0_copyFrom_73 fd_X0_21_0 (by first | rfl | exact gC0 (by assumption) | exact gL0 (by assumption)) rfl ?_
  refine Rn.iconst (v := (nI 0)) dX0_copyFrom_76 rfl ?_
  refine Rn.aload_n dX0_copyFrom_77 rfl rfl ?_
  refine Rn.getR dX0_copyFrom_78 fd_X0_21_0 (by first | rfl | exact gC0 (by assumption) | exact gL0 (by assumption)) rfl ?_
  refine Rn.iconst (v := (nI 0)) dX0_copyFrom_81 rfl ?_
  refine Rn.bipush (v := (nI 56)) dX0_copyFrom_82 rfl ?_
  refine Rn.acopy dX0_copyFrom_84 ac_X0_49 (by first | rfl | exact gC1 (by assumption) | exact gC2 (by assumption) | exact gC3 (by assumption) | exact gL1 (by assumption) | exact gL2 (by assumption) | exact gL3 (by assumption) | exact gL4 (by assumption) | exact gL5 (by assumption) | exact gL6 (by assumption)) (by first | rfl | exact gC1 (by assumption) | exact gC2 (by assumption) | exact gC3 (by assumption) | exact gL1 (by assumption) | exact gL2 (by assumption) | exact gL3 (by assumption) | exact gL4 (by assumption) | exact gL5 (by assumption) | exact gL6 (by assumption)) (by decide) (by decide) (by decide) (Nat.le_of_ble_eq_true rfl) ?_
  refine Rn.aload_n dX0_copyFrom_87 rfl rfl ?_
  refine Rn.getR dX0_copyFrom_88 fd_X0_25_0 (by first | rfl | exact gC0 (by assumption) | exact gL0 (by assumption)) rfl ?_
  refine Rn.iconst (v := (nI 0)) dX0_copyFrom_91 rfl ?_
  refine Rn.aload_n dX0_copyFrom_92 rfl rfl ?_
  refine Rn.getR dX0_copyFrom_93 fd_X0_25_0 (by first | rfl | exact gC0 (by assumption) | exact gL0 (by assumption)) rfl ?_
  refine Rn.iconst (v := (nI 0)) dX0_copyFrom_96 rfl ?_
  refine Rn.bipush (v := (nI 72)) dX0_copyFrom_97 rfl ?_
  refine Rn.acopy dX0_copyFrom_99 ac_X0_49 (by first | rfl | exact gC1 (by assumption) | exact gC2 (by assumption) | exact gC3 (by assumption) | exact gL1 (by assumption) | exact gL2 (by assumption) | exact gL3 (by assumption) | exact gL4 (by assumption) | exact gL5 (by assumption) | exact gL6 (by assumption)) (by first | rfl | exact gC1 (by assumption) | exact gC2 (by assumption) | exact gC3 (by assumption) | exact gL1 (by assumption) | exact gL2 (by assumption) | exact gL3 (by assumption) | exact gL4 (by assumption) | exact gL5 (by assumption) | exact gL6 (by assumption)) (by decide) (by decide) (by decide) (Nat.le_of_ble_eq_true rfl) ?_
  refine Rn.aload_n dX0_copyFrom_102 rfl rfl ?_
  refine Rn.getR dX0_copyFrom_103 fd_X0_28_0 (by first | rfl | exact gC0 (by assumption) | exact gL0 (by assumption)) rfl ?_
  refine Rn.iconst (v := (nI 0)) dX0_copyFrom_106 rfl ?_
  refine Rn.aload_n dX0_copyFrom_107 rfl rfl ?_
  refine Rn.getR dX0_copyFrom_108 fd_X0_28_0 (by first | rfl | exact gC0 (by assumption) | exact gL0 (by assumption)) rfl ?_
  refine Rn.iconst (v := (nI 0)) dX0_copyFrom_111 rfl ?_
  refine Rn.sipush (v := (nI 240)) dX0_copyFrom_112 rfl ?_
  refine Rn.acopy dX0_copyFrom_115 ac_X0_49 (by first | rfl | exact gC1 (by assumption) | exact gC2 (by assumption) | exact gC3 (by assumption) | exact gL1 (by assumption) | exact gL2 (by assumption) | exact gL3 (by assumption) | exact gL4 (by assumption) | exact gL5 (by assumption) | exact gL6 (by assumption)) (by first | rfl | exact gC1 (by assumption) | exact gC2 (by assumption) | exact gC3 (by assumption) | exact gL1 (by assumption) | exact gL2 (by assumption) | exact gL3 (by assumption) | exact gL4 (by assumption) | exact gL5 (by assumption) | exact gL6 (by assumption)) (by decide) (by decide) (by decide) (Nat.le_of_ble_eq_true rfl) ?_
  have f9 : ∀ j, j < 9 → j = 0 ∨ j = 1 ∨ j = 2 ∨ j = 3 ∨ j = 4 ∨ j = 5 ∨ j = 6 ∨ j = 7 ∨ j = 8 := fun j hj => by omega
  exact Rn.vret dX0_copyFrom_118 rfl (⟨rfl, fun j hj => by rcases f9 j hj with rfl | rfl | rfl | rfl | rfl | rfl | rfl | rfl | rfl <;> rfl, fun j hj => by rw [zset_ne _ _ (by decide), zset_at, cpy_in hj]; first | done | rfl, fun a ha => by rw [zset_ne _ _ (by omega), zset_ne _ _ (by omega), zset_ne _ _ (by omega), zup_ne _ _ (by omega), zup_ne _ _ (by omega), zup_ne _ _ (by omega), zup_ne _ _ (by omega), zup_ne _ _ (by omega), zup_ne _ _ (by omega), zup_ne _ _ (by omega), zup_ne _ _ (by omega), zup_ne _ _ (by omega)]⟩)
theorem ct_cp70_3 (I : Hi) : Ct G GAM mX0_copyFrom d 0 [.ref 3, .ref 70] I (Rv (fun v J => v = none ∧ (∀ j, j < 9 → J 3 j = I 70 j) ∧ (∀ j, j < 72 → J 5 j = I 72 j) ∧ ∀ a, ¬ (3 ≤ a ∧ a ≤ 6) → J a = I a)) := by
  refine Ct.mk [some (.ref 3), some (.ref 70)] ?_
  refine Rn.aload_n dX0_copyFrom_0 rfl rfl ?_
  refine Rn.aload_n dX0_copyFrom_1 rfl rfl ?_
  refine Rn.getI dX0_copyFrom_2 fd_X0_31_0 (by first | rfl | exact gC0 (by assumption) | exact gL0 (by assumption)) rfl ?_
  refine Rn.putI dX0_copyFrom_5 fp_X0_31_0 (by first | rfl | exact gC0 (by assumption) | exact gL0 (by assumption)) rfl ?_
  refine Rn.aload_n dX0_copyFrom_8 rfl rfl ?_
  refine Rn.aload_n dX0_copyFrom_9 rfl rfl ?_
  refine Rn.getI dX0_copyFrom_10 fd_X0_34_0 (by first | rfl | exact gC0 (by assumption) | exact gL0 (by assumption)) rfl ?_
  refine Rn.putI dX0_copyFrom_13 fp_X0_34_0 (by first | rfl | exact gC0 (by assumption) | exact gL0 (by assumption)) rfl ?_
  refine Rn.aload_n dX0_copyFrom_16 rfl rfl ?_
  refine Rn.aload_n dX0_copyFrom_17 rfl rfl ?_
  refine Rn.getI dX0_copyFrom_18 fd_X0_37_0 (by first | rfl | exact gC0 (by assumption) | exact gL0 (by assumption)) rfl ?_
  refine Rn.putI dX0_copyFrom_21 fp_X0_37_0 (by first | rfl | exact gC0 (by assumption) | exact gL0 (by assumption)) rfl ?_
  refine Rn.aload_n dX0_copyFrom_24 rfl rfl ?_
  refine Rn.aload_n dX0_copyFrom_25 rfl rfl ?_
  refine Rn.getI dX0_copyFrom_26 fd_X0_40_0 (by first | rfl | exact gC0 (by assumption) | exact gL0 (by assumption)) rfl ?_
  refine Rn.putI dX0_copyFrom_29 fp_X0_40_0 (by first | rfl | exact gC0 (by assumption) | exact gL0 (by assumption)) rfl ?_
  refine Rn.aload_n dX0_copyFrom_32 rfl rfl ?_
  refine Rn.aload_n dX0_copyFrom_33 rfl rfl ?_
  refine Rn.getI dX0_copyFrom_34 fd_X0_9_0 (by first | rfl | exact gC0 (by assumption) | exact gL0 (by assumption)) rfl ?_
  refine Rn.putI dX0_copyFrom_37 fp_X0_9_0 (by first | rfl | exact gC0 (by assumption) | exact gL0 (by assumption)) rfl ?_
  refine Rn.aload_n dX0_copyFrom_40 rfl rfl ?_
  refine Rn.aload_n dX0_copyFrom_41 rfl rfl ?_
  refine Rn.getI dX0_copyFrom_42 fd_X0_15_0 (by first | rfl | exact gC0 (by assumption) | exact gL0 (by assumption)) rfl ?_
  refine Rn.putI dX0_copyFrom_45 fp_X0_15_0 (by first | rfl | exact gC0 (by assumption) | exact gL0 (by assumption)) rfl ?_
  refine Rn.aload_n dX0_copyFrom_48 rfl rfl ?_
  refine Rn.aload_n dX0_copyFrom_49 rfl rfl ?_
  refine Rn.getI dX0_copyFrom_50 fd_X0_18_0 (by first | rfl | exact gC0 (by assumption) | exact gL0 (by assumption)) rfl ?_
  refine Rn.putI dX0_copyFrom_53 fp_X0_18_0 (by first | rfl | exact gC0 (by assumption) | exact gL0 (by assumption)) rfl ?_
  refine Rn.aload_n dX0_copyFrom_56 rfl rfl ?_
  refine Rn.aload_n dX0_copyFrom_57 rfl rfl ?_
  refine Rn.getI dX0_copyFrom_58 fd_X0_43_0 (by first | rfl | exact gC0 (by assumption) | exact gL0 (by assumption)) rfl ?_
  refine Rn.putI dX0_copyFrom_61 fp_X0_43_0 (by first | rfl | exact gC0 (by assumption) | exact gL0 (by assumption)) rfl ?_
  refine Rn.aload_n dX0_copyFrom_64 rfl rfl ?_
  refine Rn.aload_n dX0_copyFrom_65 rfl rfl ?_
  refine Rn.getI dX0_copyFrom_66 fd_X0_46_0 (by first | rfl | exact gC0 (by assumption) | exact gL0 (by assumption)) rfl ?_
  refine Rn.putI dX0_copyFrom_69 fp_X0_46_0 (by first | rfl | exact gC0 (by assumption) | exact gL0 (by assumption)) rfl ?_
  refine Rn.aload_n dX0_copyFrom_72 rfl rfl ?_
  refine Rn.getR dX0_copyFrom_73 fd_X0_21_0 (by first | rfl | exact gC0 (by assumption) | exact gL0 (by assumption)) rfl ?_
  refine Rn.iconst (v := (nI 0)) dX0_copyFrom_76 rfl ?_
  refine Rn.aload_n dX0_copyFrom_77 rfl rfl ?_
  refine Rn.getR dX0_copyFrom_78 fd_X0_21_0 (by first | rfl | exact gC0 (by assumption) | exact gL0 (by assumption)) rfl ?_
  refine Rn.iconst (v := (nI 0)) dX0_copyFrom_81 rfl ?_
  refine Rn.bipush (v := (nI 56)) dX0_copyFrom_82 rfl ?_
  refine Rn.acopy dX0_copyFrom_84 ac_X0_49 (by first | rfl | exact gC1 (by assumption) | exact gC2 (by assumption) | exact gC3 (by assumption) | exact gL1 (by assumption) | exact gL2 (by assumption) | exact gL3 (by assumption) | exact gL4 (by assumption) | exact gL5 (by assumption) | exact gL6 (by assumption)) (by first | rfl | exact gC1 (by assumption) | exact gC2 (by assumption) | exact gC3 (by assumption) | exact gL1 (by assumption) | exact gL2 (by assumption) | exact gL3 (by assumption) | exact gL4 (by assumption) | exact gL5 (by assumption) | exact gL6 (by assumption)) (by decide) (by decide) (by decide) (Nat.le_of_ble_eq_true rfl) ?_
  refine Rn.aload_n dX0_copyFrom_87 rfl rfl ?_
  refine Rn.getR dX0_copyFrom_88 fd_X0_25_0 (by first | rfl | exact gC0 (by assumption) | exact gL0 (by assumption)) rfl ?_
  refine Rn.iconst (v := (nI 0)) dX0_copyFrom_91 rfl ?_
  refine Rn.aload_n dX0_copyFrom_92 rfl rfl ?_
  refine Rn.getR dX0_copyFrom_93 fd_X0_25_0 (by first | rfl | exact gC0 (by assumption) | exact gL0 (by assumption)) rfl ?_
  refine Rn.iconst (v := (nI 0)) dX0_copyFrom_96 rfl ?_
  refine Rn.bipush (v := (nI 72)) dX0_copyFrom_97 rfl ?_
  refine Rn.acopy dX0_copyFrom_99 ac_X0_49 (by first | rfl | exact gC1 (by assumption) | exact gC2 (by assumption) | exact gC3 (by assumption) | exact gL1 (by assumption) | exact gL2 (by assumption) | exact gL3 (by assumption) | exact gL4 (by assumption) | exact gL5 (by assumption) | exact gL6 (by assumption)) (by first | rfl | exact gC1 (by assumption) | exact gC2 (by assumption) | exact gC3 (by assumption) | exact gL1 (by assumption) | exact gL2 (by assumption) | exact gL3 (by assumption) | exact gL4 (by assumption) | exact gL5 (by assumption) | exact gL6 (by assumption)) (by decide) (by decide) (by decide) (Nat.le_of_ble_eq_true rfl) ?_
  refine Rn.aload_n dX0_copyFrom_102 rfl rfl ?_
  refine Rn.getR dX0_copyFrom_103 fd_X0_28_0 (by first | rfl | exact gC0 (by assumption) | exact gL0 (by assumption)) rfl ?_
  refine Rn.iconst (v := (nI 0)) dX0_copyFrom_106 rfl ?_
  refine Rn.aload_n dX0_copyFrom_107 rfl rfl ?_
  refine Rn.getR dX0_copyFrom_108 fd_X0_28_0 (by first | rfl | exact gC0 (by assumption) | exact gL0 (by assumption)) rfl ?_
  refine Rn.iconst (v := (nI 0)) dX0_copyFrom_111 rfl ?_
  refine Rn.sipush (v := (nI 240)) dX0_copyFrom_112 rfl ?_
  refine Rn.acopy dX0_copyFrom_115 ac_X0_49 (by first | rfl | exact gC1 (by assumption) | exact gC2 (by assumption) | exact gC3 (by assumption) | exact gL1 (by assumption) | exact gL2 (by assumption) | exact gL3 (by assumption) | exact gL4 (by assumption) | exact gL5 (by assumption) | exact gL6 (by assumption)) (by first | rfl | exact gC1 (by assumption) | exact gC2 (by assumption) | exact gC3 (by assumption) | exact gL1 (by assumption) | exact gL2 (by assumption) | exact gL3 (by assumption) | exact gL4 (by assumption) | exact gL5 (by assumption) | exact gL6 (by assumption)) (by decide) (by decide) (by decide) (Nat.le_of_ble_eq_true rfl) ?_
  have f9 : ∀ j, j < 9 → j = 0 ∨ j = 1 ∨ j = 2 ∨ j = 3 ∨ j = 4 ∨ j = 5 ∨ j = 6 ∨ j = 7 ∨ j = 8 := fun j hj => by omega
  exact Rn.vret dX0_copyFrom_118 rfl (⟨rfl, fun j hj => by rcases f9 j hj with rfl | rfl | rfl | rfl | rfl | rfl | rfl | rfl | rfl <;> rfl, fun j hj => by rw [zset_ne _ _ (by decide), zset_at, cpy_in hj]; first | done | rfl, fun a ha => by rw [zset_ne _ _ (by omega), zset_ne _ _ (by omega), zset_ne _ _ (by omega), zup_ne _ _ (by omega), zup_ne _ _ (by omega), zup_ne _ _ (by omega), zup_ne _ _ (by omega), zup_ne _ _ (by omega), zup_ne _ _ (by omega), zup_ne _ _ (by omega), zup_ne _ _ (by omega), zup_ne _ _ (by omega)]⟩)
theorem ct_cp74_3 (I : Hi) : Ct G GAM mX0_copyFrom d 0 [.ref 3, .ref 74] I (Rv (fun v J => v = none ∧ (∀ j, j < 9 → J 3 j = I 74 j) ∧ (∀ j, j < 72 → J 5 j = I 76 j) ∧ ∀ a, ¬ (3 ≤ a ∧ a ≤ 6) → J a = I a)) := by
  refine Ct.mk [some (.ref 3), some (.ref 74)] ?_
  refine Rn.aload_n dX0_copyFrom_0 rfl rfl ?_
  refine Rn.aload_n dX0_copyFrom_1 rfl rfl ?_
  refine Rn.getI dX0_copyFrom_2 fd_X0_31_0 (by first | rfl | exact gC0 (by assumption) | exact gL0 (by assumption)) rfl ?_
  refine Rn.putI dX0_copyFrom_5 fp_X0_31_0 (by first | rfl | exact gC0 (by assumption) | exact gL0 (by assumption)) rfl ?_
  refine Rn.aload_n dX0_copyFrom_8 rfl rfl ?_
  refine Rn.aload_n dX0_copyFrom_9 rfl rfl ?_
  refine Rn.getI dX0_copyFrom_10 fd_X0_34_0 (by first | rfl | exact gC0 (by assumption) | exact gL0 (by assumption)) rfl ?_
  refine Rn.putI dX0_copyFrom_13 fp_X0_34_0 (by first | rfl | exact gC0 (by assumption) | exact gL0 (by assumption)) rfl ?_
  refine Rn.aload_n dX0_copyFrom_16 rfl rfl ?_
  refine Rn.aload_n dX0_copyFrom_17 rfl rfl ?_
  refine Rn.getI dX0_copyFrom_18 fd_X0_37_0 (by first | rfl | exact gC0 (by assumption) | exact gL0 (by assumption)) rfl ?_
  refine Rn.putI dX0_copyFrom_21 fp_X0_37_0 (by first | rfl | exact gC0 (by assumption) | exact gL0 (by assumption)) rfl ?_
  refine Rn.aload_n dX0_copyFrom_24 rfl rfl ?_
  refine Rn.aload_n dX0_copyFrom_25 rfl rfl ?_
  refine Rn.getI dX0_copyFrom_26 fd_X0_40_0 (by first | rfl | exact gC0 (by assumption) | exact gL0 (by assumption)) rfl ?_
  refine Rn.putI dX0_copyFrom_29 fp_X0_40_0 (by first | rfl | exact gC0 (by assumption) | exact gL0 (by assumption)) rfl ?_
  refine Rn.aload_n dX0_copyFrom_32 rfl rfl ?_
  refine Rn.aload_n dX0_copyFrom_33 rfl rfl ?_
  refine Rn.getI dX0_copyFrom_34 fd_X0_9_0 (by first | rfl | exact gC0 (by assumption) | exact gL0 (by assumption)) rfl ?_
  refine Rn.putI dX0_copyFrom_37 fp_X0_9_0 (by first | rfl | exact gC0 (by assumption) | exact gL0 (by assumption)) rfl ?_
  refine Rn.aload_n dX0_copyFrom_40 rfl rfl ?_
  refine Rn.aload_n dX0_copyFrom_41 rfl rfl ?_
  refine Rn.getI dX0_copyFrom_42 fd_X0_15_0 (by first | rfl | exact gC0 (by assumption) | exact gL0 (by assumption)) rfl ?_
  refine Rn.putI dX0_copyFrom_45 fp_X0_15_0 (by first | rfl | exact gC0 (by assumption) | exact gL0 (by assumption)) rfl ?_
  refine Rn.aload_n dX0_copyFrom_48 rfl rfl ?_
  refine Rn.aload_n dX0_copyFrom_49 rfl rfl ?_
  refine Rn.getI dX0_copyFrom_50 fd_X0_18_0 (by first | rfl | exact gC0 (by assumption) | exact gL0 (by assumption)) rfl ?_
  refine Rn.putI dX0_copyFrom_53 fp_X0_18_0 (by first | rfl | exact gC0 (by assumption) | exact gL0 (by assumption)) rfl ?_
  refine Rn.aload_n dX0_copyFrom_56 rfl rfl ?_
  refine Rn.aload_n dX0_copyFrom_57 rfl rfl ?_
  refine Rn.getI dX0_copyFrom_58 fd_X0_43_0 (by first | rfl | exact gC0 (by assumption) | exact gL0 (by assumption)) rfl ?_
  refine Rn.putI dX0_copyFrom_61 fp_X0_43_0 (by first | rfl | exact gC0 (by assumption) | exact gL0 (by assumption)) rfl ?_
  refine Rn.aload_n dX0_copyFrom_64 rfl rfl ?_
  refine Rn.aload_n dX0_copyFrom_65 rfl rfl ?_
  refine Rn.getI dX0_copyFrom_66 fd_X0_46_0 (by first | rfl | exact gC0 (by assumption) | exact gL0 (by assumption)) rfl ?_
  refine Rn.putI dX0_copyFrom_69 fp_X0_46_0 (by first | rfl | exact gC0 (by assumption) | exact gL0 (by assumption)) rfl ?_
  refine Rn.aload_n dX0_copyFrom_72 rfl rfl ?_
  refine Rn.getR dX0_copyFrom_73 fd_X0_21_0 (by first | rfl | exact gC0 (by assumption) | exact gL0 (by assumption)) rfl ?_
  refine Rn.iconst (v := (nI 0)) dX0_copyFrom_76 rfl ?_
  refine Rn.aload_n dX0_copyFrom_77 rfl rfl ?_
  refine Rn.getR dX0_copyFrom_78 fd_X0_21_0 (by first | rfl | exact gC0 (by assumption) | exact gL0 (by assumption)) rfl ?_
  refine Rn.iconst (v := (nI 0)) dX0_copyFrom_81 rfl ?_
  refine Rn.bipush (v := (nI 56)) dX0_copyFrom_82 rfl ?_
  refine Rn.acopy dX0_copyFrom_84 ac_X0_49 (by first | rfl | exact gC1 (by assumption) | exact gC2 (by assumption) | exact gC3 (by assumption) | exact gL1 (by assumption) | exact gL2 (by assumption) | exact gL3 (by assumption) | exact gL4 (by assumption) | exact gL5 (by assumption) | exact gL6 (by assumption)) (by first | rfl | exact gC1 (by assumption) | exact gC2 (by assumption) | exact gC3 (by assumption) | exact gL1 (by assumption) | exact gL2 (by assumption) | exact gL3 (by assumption) | exact gL4 (by assumption) | exact gL5 (by assumption) | exact gL6 (by assumption)) (by decide) (by decide) (by decide) (Nat.le_of_ble_eq_true rfl) ?_
  refine Rn.aload_n dX0_copyFrom_87 rfl rfl ?_
  refine Rn.getR dX0_copyFrom_88 fd_X0_25_0 (by first | rfl | exact gC0 (by assumption) | exact gL0 (by assumption)) rfl ?_
  refine Rn.iconst (v := (nI 0)) dX0_copyFrom_91 rfl ?_
  refine Rn.aload_n dX0_copyFrom_92 rfl rfl ?_
  refine Rn.getR dX0_copyFrom_93 fd_X0_25_0 (by first | rfl | exact gC0 (by assumption) | exact gL0 (by assumption)) rfl ?_
  refine Rn.iconst (v := (nI 0)) dX0_copyFrom_96 rfl ?_
  refine Rn.bipush (v := (nI 72)) dX0_copyFrom_97 rfl ?_
  refine Rn.acopy dX0_copyFrom_99 ac_X0_49 (by first | rfl | exact gC1 (by assumption) | exact gC2 (by assumption) | exact gC3 (by assumption) | exact gL1 (by assumption) | exact gL2 (by assumption) | exact gL3 (by assumption) | exact gL4 (by assumption) | exact gL5 (by assumption) | exact gL6 (by assumption)) (by first | rfl | exact gC1 (by assumption) | exact gC2 (by assumption) | exact gC3 (by assumption) | exact gL1 (by assumption) | exact gL2 (by assumption) | exact gL3 (by assumption) | exact gL4 (by assumption) | exact gL5 (by assumption) | exact gL6 (by assumption)) (by decide) (by decide) (by decide) (Nat.le_of_ble_eq_true rfl) ?_
  refine Rn.aload_n dX0_copyFrom_102 rfl rfl ?_
  refine Rn.getR dX0_copyFrom_103 fd_X0_28_0 (by first | rfl | exact gC0 (by assumption) | exact gL0 (by assumption)) rfl ?_
  refine Rn.iconst (v := (nI 0)) dX0_copyFrom_106 rfl ?_
  refine Rn.aload_n dX0_copyFrom_107 rfl rfl ?_
  refine Rn.getR dX0_copyFrom_108 fd_X0_28_0 (by first | rfl | exact gC0 (by assumption) | exact gL0 (by assumption)) rfl ?_
  refine Rn.iconst (v := (nI 0)) dX0_copyFrom_111 rfl ?_
  refine Rn.sipush (v := (nI 240)) dX0_copyFrom_112 rfl ?_
  refine Rn.acopy dX0_copyFrom_115 ac_X0_49 (by first | rfl | exact gC1 (by assumption) | exact gC2 (by assumption) | exact gC3 (by assumption) | exact gL1 (by assumption) | exact gL2 (by assumption) | exact gL3 (by assumption) | exact gL4 (by assumption) | exact gL5 (by assumption) | exact gL6 (by assumption)) (by first | rfl | exact gC1 (by assumption) | exact gC2 (by assumption) | exact gC3 (by assumption) | exact gL1 (by assumption) | exact gL2 (by assumption) | exact gL3 (by assumption) | exact gL4 (by assumption) | exact gL5 (by assumption) | exact gL6 (by assumption)) (by decide) (by decide) (by decide) (Nat.le_of_ble_eq_true rfl) ?_
  have f9 : ∀ j, j < 9 → j = 0 ∨ j = 1 ∨ j = 2 ∨ j = 3 ∨ j = 4 ∨ j = 5 ∨ j = 6 ∨ j = 7 ∨ j = 8 := fun j hj => by omega
  exact Rn.vret dX0_copyFrom_118 rfl (⟨rfl, fun j hj => by rcases f9 j hj with rfl | rfl | rfl | rfl | rfl | rfl | rfl | rfl | rfl <;> rfl, fun j hj => by rw [zset_ne _ _ (by decide), zset_at, cpy_in hj]; first | done | rfl, fun a ha => by rw [zset_ne _ _ (by omega), zset_ne _ _ (by omega), zset_ne _ _ (by omega), zup_ne _ _ (by omega), zup_ne _ _ (by omega), zup_ne _ _ (by omega), zup_ne _ _ (by omega), zup_ne _ _ (by omega), zup_ne _ _ (by omega), zup_ne _ _ (by omega), zup_ne _ _ (by omega), zup_ne _ _ (by omega)]⟩)
theorem ct_cp78_3 (I : Hi) : Ct G GAM mX0_copyFrom d 0 [.ref 3, .ref 78] I (Rv (fun v J => v = none ∧ (∀ j, j < 9 → J 3 j = I 78 j) ∧ (∀ j, j < 72 → J 5 j = I 80 j) ∧ ∀ a, ¬ (3 ≤ a ∧ a ≤ 6) → J a = I a)) := by
  refine Ct.mk [some (.ref 3), some (.ref 78)] ?_
  refine Rn.aload_n dX0_copyFrom_0 rfl rfl ?_
  refine Rn.aload_n dX0_copyFrom_1 rfl rfl ?_
  refine Rn.getI dX0_copyFrom_2 fd_X0_31_0 (by first | rfl | exact gC0 (by assumption) | exact gL0 (by assumption)) rfl ?_
  refine Rn.putI dX0_copyFrom_5 fp_X0_31_0 (by first | rfl | exact gC0 (by assumption) | exact gL0 (by assumption)) rfl ?_
  refine Rn.aload_n dX0_copyFrom_8 rfl rfl ?_
  refine Rn.aload_n dX0_copyFrom_9 rfl rfl ?_
  refine Rn.getI dX0_copyFrom_10 fd_X0_34_0 (by first | rfl | exact gC0 (by assumption) | exact gL0 (by assumption)) rfl ?_
  refine Rn.putI dX0_copyFrom_13 fp_X0_34_0 (by first | rfl | exact gC0 (by assumption) | exact gL0 (by assumption)) rfl ?_
  refine Rn.aload_n dX0_copyFrom_16 rfl rfl ?_
  refine Rn.aload_n dX0_copyFrom_17 rfl rfl ?_
  refine Rn.getI dX0_copyFrom_18 fd_X0_37_0 (by first | rfl | exact gC0 (by assumption) | exact gL0 (by assumption)) rfl ?_
  refine Rn.putI dX0_copyFrom_21 fp_X0_37_0 (by first | rfl | exact gC0 (by assumption) | exact gL0 (by assumption)) rfl ?_
  refine Rn.aload_n dX0_copyFrom_24 rfl rfl ?_
  refine Rn.aload_n dX0_copyFrom_25 rfl rfl ?_
  refine Rn.getI dX0_copyFrom_26 fd_X0_40_0 (by first | rfl | exact gC0 (by assumption) | exact gL0 (by assumption)) rfl ?_
  refine Rn.putI dX0_copyFrom_29 fp_X0_40_0 (by first | rfl | exact gC0 (by assumption) | exact gL0 (by assumption)) rfl ?_
  refine Rn.aload_n dX0_copyFrom_32 rfl rfl ?_
  refine Rn.aload_n dX0_copyFrom_33 rfl rfl ?_
  refine Rn.getI dX0_copyFrom_34 fd_X0_9_0 (by first | rfl | exact gC0 (by assumption) | exact gL0 (by assumption)) rfl ?_
  refine Rn.putI dX0_copyFrom_37 fp_X0_9_0 (by first | rfl | exact gC0 (by assumption) | exact gL0 (by assumption)) rfl ?_
  refine Rn.aload_n dX0_copyFrom_40 rfl rfl ?_
  refine Rn.aload_n dX0_copyFrom_41 rfl rfl ?_
  refine Rn.getI dX0_copyFrom_42 fd_X0_15_0 (by first | rfl | exact gC0 (by assumption) | exact gL0 (by assumption)) rfl ?_
  refine Rn.putI dX0_copyFrom_45 fp_X0_15_0 (by first | rfl | exact gC0 (by assumption) | exact gL0 (by assumption)) rfl ?_
  refine Rn.aload_n dX0_copyFrom_48 rfl rfl ?_
  refine Rn.aload_n dX0_copyFrom_49 rfl rfl ?_
  refine Rn.getI dX0_copyFrom_50 fd_X0_18_0 (by first | rfl | exact gC0 (by assumption) | exact gL0 (by assumption)) rfl ?_
  refine Rn.putI dX0_copyFrom_53 fp_X0_18_0 (by first | rfl | exact gC0 (by assumption) | exact gL0 (by assumption)) rfl ?_
  refine Rn.aload_n dX0_copyFrom_56 rfl rfl ?_
  refine Rn.aload_n dX0_copyFrom_57 rfl rfl ?_
  refine Rn.getI dX0_copyFrom_58 fd_X0_43_0 (by first | rfl | exact gC0 (by assumption) | exact gL0 (by assumption)) rfl ?_
  refine Rn.putI dX0_copyFrom_61 fp_X0_43_0 (by first | rfl | exact gC0 (by assumption) | exact gL0 (by assumption)) rfl ?_
  refine Rn.aload_n dX0_copyFrom_64 rfl rfl ?_
  refine Rn.aload_n dX0_copyFrom_65 rfl rfl ?_
  refine Rn.getI dX0_copyFrom_66 fd_X0_46_0 (by first | rfl | exact gC0 (by assumption) | exact gL0 (by assumption)) rfl ?_
  refine Rn.putI dX0_copyFrom_69 fp_X0_46_0 (by first | rfl | exact gC0 (by assumption) | exact gL0 (by assumption)) rfl ?_
  refine Rn.aload_n dX0_copyFrom_72 rfl rfl ?_
  refine Rn.getR dX0_copyFrom_73 fd_X0_21_0 (by first | rfl | exact gC0 (by assumption) | exact gL0 (by assumption)) rfl ?_
  refine Rn.iconst (v := (nI 0)) dX0_copyFrom_76 rfl ?_
  refine Rn.aload_n dX0_copyFrom_77 rfl rfl ?_
  refine Rn.getR dX0_copyFrom_78 fd_X0_21_0 (by first | rfl | exact gC0 (by assumption) | exact gL0 (by assumption)) rfl ?_
  refine Rn.iconst (v := (nI 0)) dX0_copyFrom_81 rfl ?_
  refine Rn.bipush (v := (nI 56)) dX0_copyFrom_82 rfl ?_
  refine Rn.acopy dX0_copyFrom_84 ac_X0_49 (by first | rfl | exact gC1 (by assumption) | exact gC2 (by assumption) | exact gC3 (by assumption) | exact gL1 (by assumption) | exact gL2 (by assumption) | exact gL3 (by assumption) | exact gL4 (by assumption) | exact gL5 (by assumption) | exact gL6 (by assumption)) (by first | rfl | exact gC1 (by assumption) | exact gC2 (by assumption) | exact gC3 (by assumption) | exact gL1 (by assumption) | exact gL2 (by assumption) | exact gL3 (by assumption) | exact gL4 (by assumption) | exact gL5 (by assumption) | exact gL6 (by assumption)) (by decide) (by decide) (by decide) (Nat.le_of_ble_eq_true rfl) ?_
  refine Rn.aload_n dX0_copyFrom_87 rfl rfl ?_
  refine Rn.getR dX0_copyFrom_88 fd_X0_25_0 (by first | rfl | exact gC0 (by assumption) | exact gL0 (by assumption)) rfl ?_
  refine Rn.iconst (v := (nI 0)) dX0_copyFrom_91 rfl ?_
  refine Rn.aload_n dX0_copyFrom_92 rfl rfl ?_
  refine Rn.getR dX0_copyFrom_93 fd_X0_25_0 (by first | rfl | exact gC0 (by assumption) | exact gL0 (by assumption)) rfl ?_
  refine Rn.iconst (v := (nI 0)) dX0_copyFrom_96 rfl ?_
  refine Rn.bipush (v := (nI 72)) dX0_copyFrom_97 rfl ?_
  refine Rn.acopy dX0_copyFrom_99 ac_X0_49 (by first | rfl | exact gC1 (by assumption) | exact gC2 (by assumption) | exact gC3 (by assumption) | exact gL1 (by assumption) | exact gL2 (by assumption) | exact gL3 (by assumption) | exact gL4 (by assumption) | exact gL5 (by assumption) | exact gL6 (by assumption)) (by first | rfl | exact gC1 (by assumption) | exact gC2 (by assumption) | exact gC3 (by assumption) | exact gL1 (by assumption) | exact gL2 (by assumption) | exact gL3 (by assumption) | exact gL4 (by assumption) | exact gL5 (by assumption) | exact gL6 (by assumption)) (by decide) (by decide) (by decide) (Nat.le_of_ble_eq_true rfl) ?_
  refine Rn.aload_n dX0_copyFrom_102 rfl rfl ?_
  refine Rn.getR dX0_copyFrom_103 fd_X0_28_0 (by first | rfl | exact gC0 (by assumption) | exact gL0 (by assumption)) rfl ?_
  refine Rn.iconst (v := (nI 0)) dX0_copyFrom_106 rfl ?_
  refine Rn.aload_n dX0_copyFrom_107 rfl rfl ?_
  refine Rn.getR dX0_copyFrom_108 fd_X0_28_0 (by first | rfl | exact gC0 (by assumption) | exact gL0 (by assumption)) rfl ?_
  refine Rn.iconst (v := (nI 0)) dX0_copyFrom_111 rfl ?_
  refine Rn.sipush (v := (nI 240)) dX0_copyFrom_112 rfl ?_
  refine Rn.acopy dX0_copyFrom_115 ac_X0_49 (by first | rfl | exact gC1 (by assumption) | exact gC2 (by assumption) | exact gC3 (by assumption) | exact gL1 (by assumption) | exact gL2 (by assumption) | exact gL3 (by assumption) | exact gL4 (by assumption) | exact gL5 (by assumption) | exact gL6 (by assumption)) (by first | rfl | exact gC1 (by assumption) | exact gC2 (by assumption) | exact gC3 (by assumption) | exact gL1 (by assumption) | exact gL2 (by assumption) | exact gL3 (by assumption) | exact gL4 (by assumption) | exact gL5 (by assumption) | exact gL6 (by assumption)) (by decide) (by decide) (by decide) (Nat.le_of_ble_eq_true rfl) ?_
  have f9 : ∀ j, j < 9 → j = 0 ∨ j = 1 ∨ j = 2 ∨ j = 3 ∨ j = 4 ∨ j = 5 ∨ j = 6 ∨ j = 7 ∨ j = 8 := fun j hj => by omega
  exact Rn.vret dX0_copyFrom_118 rfl (⟨rfl, fun j hj => by rcases f9 j hj with rfl | rfl | rfl | rfl | rfl | rfl | rfl | rfl | rfl <;> rfl, fun j hj => by rw [zset_ne _ _ (by decide), zset_at, cpy_in hj]; first | done | rfl, fun a ha => by rw [zset_ne _ _ (by omega), zset_ne _ _ (by omega), zset_ne _ _ (by omega), zup_ne _ _ (by omega), zup_ne _ _ (by omega), zup_ne _ _ (by omega), zup_ne _ _ (by omega), zup_ne _ _ (by omega), zup_ne _ _ (by omega), zup_ne _ _ (by omega), zup_ne _ _ (by omega), zup_ne _ _ (by omega)]⟩)
theorem ct_cp82_3 (I : Hi) : Ct G GAM mX0_copyFrom d 0 [.ref 3, .ref 82] I (Rv (fun v J => v = none ∧ (∀ j, j < 9 → J 3 j = I 82 j) ∧ (∀ j, j < 72 → J 5 j = I 84 j) ∧ ∀ a, ¬ (3 ≤ a ∧ a ≤ 6) → J a = I a)) := by
  refine Ct.mk [some (.ref 3), some (.ref 82)] ?_
  refine Rn.aload_n dX0_copyFrom_0 rfl rfl ?_
  refine Rn.aload_n dX0_copyFrom_1 rfl rfl ?_
  refine Rn.getI dX0_copyFrom_2 fd_X0_31_0 (by first | rfl | exact gC0 (by assumption) | exact gL0 (by assumption)) rfl ?_
  refine Rn.putI dX0_copyFrom_5 fp_X0_31_0 (by first | rfl | exact gC0 (by assumption) | exact gL0 (by assumption)) rfl ?_
  refine Rn.aload_n dX0_copyFrom_8 rfl rfl ?_
  refine Rn.aload_n dX0_copyFrom_9 rfl rfl ?_
  refine Rn.getI dX0_copyFrom_10 fd_X0_34_0 (by first | rfl | exact gC0 (by assumption) | exact gL0 (by assumption)) rfl ?_
  refine Rn.putI dX0_copyFrom_13 fp_X0_34_0 (by first | rfl | exact gC0 (by assumption) | exact gL0 (by assumption)) rfl ?_
  refine Rn.aload_n dX0_copyFrom_16 rfl rfl ?_
  refine Rn.aload_n dX0_copyFrom_17 rfl rfl ?_
  refine Rn.getI dX0_copyFrom_18 fd_X0_37_0 (by first | rfl | exact gC0 (by assumption) | exact gL0 (by assumption)) rfl ?_
  refine Rn.putI dX0_copyFrom_21 fp_X0_37_0 (by first | rfl | exact gC0 (by assumption) | exact gL0 (by assumption)) rfl ?_
  refine Rn.aload_n dX0_copyFrom_24 rfl rfl ?_
  refine Rn.aload_n dX0_copyFrom_25 rfl rfl ?_
  refine Rn.getI dX0_copyFrom_26 fd_X0_40_0 (by first | rfl | exact gC0 (by assumption) | exact gL0 (by assumption)) rfl ?_
  refine Rn.putI dX0_copyFrom_29 fp_X0_40_0 (by first | rfl | exact gC0 (by assumption) | exact gL0 (by assumption)) rfl ?_
  refine Rn.aload_n dX0_copyFrom_32 rfl rfl ?_
  refine Rn.aload_n dX0_copyFrom_33 rfl rfl ?_
  refine Rn.getI dX0_copyFrom_34 fd_X0_9_0 (by first | rfl | exact gC0 (by assumption) | exact gL0 (by assumption)) rfl ?_
  refine Rn.putI dX0_copyFrom_37 fp_X0_9_0 (by first | rfl | exact gC0 (by assumption) | exact gL0 (by assumption)) rfl ?_
  refine Rn.aload_n dX0_copyFrom_40 rfl rfl ?_
  refine Rn.aload_n dX0_copyFrom_41 rfl rfl ?_
  refine Rn.getI dX0_copyFrom_42 fd_X0_15_0 (by first | rfl | exact gC0 (by assumption) | exact gL0 (by assumption)) rfl ?_
  refine Rn.putI dX0_copyFrom_45 fp_X0_15_0 (by first | rfl | exact gC0 (by assumption) | exact gL0 (by assumption)) rfl ?_
  refine Rn.aload_n dX0_copyFrom_48 rfl rfl ?_
  refine Rn.aload_n dX0_copyFrom_49 rfl rfl ?_
  refine Rn.getI dX0_copyFrom_50 fd_X0_18_0 (by first | rfl | exact gC0 (by assumption) | exact gL0 (by assumption)) rfl ?_
  refine Rn.putI dX0_copyFrom_53 fp_X0_18_0 (by first | rfl | exact gC0 (by assumption) | exact gL0 (by assumption)) rfl ?_
  refine Rn.aload_n dX0_copyFrom_56 rfl rfl ?_
  refine Rn.aload_n dX0_copyFrom_57 rfl rfl ?_
  refine Rn.getI dX0_copyFrom_58 fd_X0_43_0 (by first | rfl | exact gC0 (by assumption) | exact gL0 (by assumption)) rfl ?_
  refine Rn.putI dX0_copyFrom_61 fp_X0_43_0 (by first | rfl | exact gC0 (by assumption) | exact gL0 (by assumption)) rfl ?_
  refine Rn.aload_n dX0_copyFrom_64 rfl rfl ?_
  refine Rn.aload_n dX0_copyFrom_65 rfl rfl ?_
  refine Rn.getI dX0_copyFrom_66 fd_X0_46_0 (by first | rfl | exact gC0 (by assumption) | exact gL0 (by assumption)) rfl ?_
  refine Rn.putI dX0_copyFrom_69 fp_X0_46_0 (by first | rfl | exact gC0 (by assumption) | exact gL0 (by assumption)) rfl ?_
  refine Rn.aload_n dX0_copyFrom_72 rfl rfl ?_
  refine Rn.getR dX0_copyFrom_73 fd_X0_21_0 (by first | rfl | exact gC0 (by assumption) | exact gL0 (by assumption)) rfl ?_
  refine Rn.iconst (v := (nI 0)) dX0_copyFrom_76 rfl ?_
  refine Rn.aload_n dX0_copyFrom_77 rfl rfl ?_
  refine Rn.getR dX0_copyFrom_78 fd_X0_21_0 (by first | rfl | exact gC0 (by assumption) | exact gL0 (by assumption)) rfl ?_
  refine Rn.iconst (v := (nI 0)) dX0_copyFrom_81 rfl ?_
  refine Rn.bipush (v := (nI 56)) dX0_copyFrom_82 rfl ?_
  refine Rn.acopy dX0_copyFrom_84 ac_X0_49 (by first | rfl | exact gC1 (by assumption) | exact gC2 (by assumption) | exact gC3 (by assumption) | exact gL1 (by assumption) | exact gL2 (by assumption) | exact gL3 (by assumption) | exact gL4 (by assumption) | exact gL5 (by assumption) | exact gL6 (by assumption)) (by first | rfl | exact gC1 (by assumption) | exact gC2 (by assumption) | exact gC3 (by assumption) | exact gL1 (by assumption) | exact gL2 (by assumption) | exact gL3 (by assumption) | exact gL4 (by assumption) | exact gL5 (by assumption) | exact gL6 (by assumption)) (by decide) (by decide) (by decide) (Nat.le_of_ble_eq_true rfl) ?_
  refine Rn.aload_n dX0_copyFrom_87 rfl rfl ?_
  refine Rn.getR dX0_copyFrom_88 fd_X0_25_0 (by first | rfl | exact gC0 (by assumption) | exact gL0 (by assumption)) rfl ?_
  refine Rn.iconst (v := (nI 0)) dX0_copyFrom_91 rfl ?_
  refine Rn.aload_n dX0_copyFrom_92 rfl rfl ?_
  refine Rn.getR dX0_copyFrom_93 fd_X0_25_0 (by first | rfl | exact gC0 (by assumption) | exact gL0 (by assumption)) rfl ?_
  refine Rn.iconst (v := (nI 0)) dX0_copyFrom_96 rfl ?_
  refine Rn.bipush (v := (nI 72)) dX0_copyFrom_97 rfl ?_
  refine Rn.acopy dX0_copyFrom_99 ac_X0_49 (by first | rfl | exact gC1 (by assumption) | exact gC2 (by assumption) | exact gC3 (by assumption) | exact gL1 (by assumption) | exact gL2 (by assumption) | exact gL3 (by assumption) | exact gL4 (by assumption) | exact gL5 (by assumption) | exact gL6 (by assumption)) (by first | rfl | exact gC1 (by assumption) | exact gC2 (by assumption) | exact gC3 (by assumption) | exact gL1 (by assumption) | exact gL2 (by assumption) | exact gL3 (by assumption) | exact gL4 (by assumption) | exact gL5 (by assumption) | exact gL6 (by assumption)) (by decide) (by decide) (by decide) (Nat.le_of_ble_eq_true rfl) ?_
  refine Rn.aload_n dX0_copyFrom_102 rfl rfl ?_
  refine Rn.getR dX0_copyFrom_103 fd_X0_28_0 (by first | rfl | exact gC0 (by assumption) | exact gL0 (by assumption)) rfl ?_
  refine Rn.iconst (v := (nI 0)) dX0_copyFrom_106 rfl ?_
  refine Rn.aload_n dX0_copyFrom_107 rfl rfl ?_
  refine Rn.getR dX0_copyFrom_108 fd_X0_28_0 (by first | rfl | exact gC0 (by assumption) | exact gL0 (by assumption)) rfl ?_
  refine Rn.iconst (v := (nI 0)) dX0_copyFrom_111 rfl ?_
  refine Rn.sipush (v := (nI 240)) dX0_copyFrom_112 rfl ?_
  refine Rn.acopy dX0_copyFrom_115 ac_X0_49 (by first | rfl | exact gC1 (by assumption) | exact gC2 (by assumption) | exact gC3 (by assumption) | exact gL1 (by assumption) | exact gL2 (by assumption) | exact gL3 (by assumption) | exact gL4 (by assumption) | exact gL5 (by assumption) | exact gL6 (by assumption)) (by first | rfl | exact gC1 (by assumption) | exact gC2 (by assumption) | exact gC3 (by assumption) | exact gL1 (by assumption) | exact gL2 (by assumption) | exact gL3 (by assumption) | exact gL4 (by assumption) | exact gL5 (by assumption) | exact gL6 (by assumption)) (by decide) (by decide) (by decide) (Nat.le_of_ble_eq_true rfl) ?_
  have f9 : ∀ j, j < 9 → j = 0 ∨ j = 1 ∨ j = 2 ∨ j = 3 ∨ j = 4 ∨ j = 5 ∨ j = 6 ∨ j = 7 ∨ j = 8 := fun j hj => by omega
  exact Rn.vret dX0_copyFrom_118 rfl (⟨rfl, fun j hj => by rcases f9 j hj with rfl | rfl | rfl | rfl | rfl | rfl | rfl | rfl | rfl <;> rfl, fun j hj => by rw [zset_ne _ _ (by decide), zset_at, cpy_in hj]; first | done | rfl, fun a ha => by rw [zset_ne _ _ (by omega), zset_ne _ _ (by omega), zset_ne _ _ (by omega), zup_ne _ _ (by omega), zup_ne _ _ (by omega), zup_ne _ _ (by omega), zup_ne _ _ (by omega), zup_ne _ _ (by omega), zup_ne _ _ (by omega), zup_ne _ _ (by omega), zup_ne _ _ (by omega), zup_ne _ _ (by omega)]⟩)
theorem ct_cp86_3 (I : Hi) : Ct G GAM mX0_copyFrom d 0 [.ref 3, .ref 86] I (Rv (fun v J => v = none ∧ (∀ j, j < 9 → J 3 j = I 86 j) ∧ (∀ j, j < 72 → J 5 j = I 88 j) ∧ ∀ a, ¬ (3 ≤ a ∧ a ≤ 6) → J a = I a)) := by
  refine Ct.mk [some (.ref 3), some (.ref 86)] ?_
  refine Rn.aload_n dX0_copyFrom_0 rfl rfl ?_
  refine Rn.aload_n dX0_copyFrom_1 rfl rfl ?_
  refine Rn.getI dX0_copyFrom_2 fd_X0_31_0 (by first | rfl | exact gC0 (by assumption) | exact gL0 (by assumption)) rfl ?_
  refine Rn.putI dX0_copyFrom_5 fp_X0_31_0 (by first | rfl | exact gC0 (by assumption) | exact gL0 (by assumption)) rfl ?_
  refine Rn.aload_n dX0_copyFrom_8 rfl rfl ?_
  refine Rn.aload_n dX0_copyFrom_9 rfl rfl ?_
  refine Rn.getI dX0_copyFrom_10 fd_X0_34_0 (by first | rfl | exact gC0 (by assumption) | exact gL0 (by assumption)) rfl ?_
  refine Rn.putI dX0_copyFrom_13 fp_X0_34_0 (by first | rfl | exact gC0 (by assumption) | exact gL0 (by assumption)) rfl ?_
  refine Rn.aload_n dX0_copyFrom_16 rfl rfl ?_
  refine Rn.aload_n dX0_copyFrom_17 rfl rfl ?_
  refine Rn.getI dX0_copyFrom_18 fd_X0_37_0 (by first | rfl | exact gC0 (by assumption) | exact gL0 (by assumption)) rfl ?_
  refine Rn.putI dX0_copyFrom_21 fp_X0_37_0 (by first | rfl | exact gC0 (by assumption) | exact gL0 (by assumption)) rfl ?_
  refine Rn.aload_n dX0_copyFrom_24 rfl rfl ?_
  refine Rn.aload_n dX0_copyFrom_25 rfl rfl ?_
  refine Rn.getI dX0_copyFrom_26 fd_X0_40_0 (by first | rfl | exact gC0 (by assumption) | exact gL0 (by assumption)) rfl ?_
  refine Rn.putI dX0_copyFrom_29 fp_X0_40_0 (by first | rfl | exact gC0 (by assumption) | exact gL0 (by assumption)) rfl ?_
  refine Rn.aload_n dX0_copyFrom_32 rfl rfl ?_
  refine Rn.aload_n dX0_copyFrom_33 rfl rfl ?_
  refine Rn.getI dX0_copyFrom_34 fd_X0_9_0 (by first | rfl | exact gC0 (by assumption) | exact gL0 (by assumption)) rfl ?_
  refine Rn.putI dX0_copyFrom_37 fp_X0_9_0 (by first | rfl | exact gC0 (by assumption) | exact gL0 (by assumption)) rfl ?_
  refine Rn.aload_n dX0_copyFrom_40 rfl rfl ?_
  refine Rn.aload_n dX0_copyFrom_41 rfl rfl ?_
  refine Rn.getI dX0_copyFrom_42 fd_X0_15_0 (by first | rfl | exact gC0 (by assumption) | exact gL0 (by assumption)) rfl ?_
  refine Rn.putI dX0_copyFrom_45 fp_X0_15_0 (by first | rfl | exact gC0 (by assumption) | exact gL0 (by assumption)) rfl ?_
  refine Rn.aload_n dX0_copyFrom_48 rfl rfl ?_
  refine Rn.aload_n dX0_copyFrom_49 rfl rfl ?_
  refine Rn.getI dX0_copyFrom_50 fd_X0_18_0 (by first | rfl | exact gC0 (by assumption) | exact gL0 (by assumption)) rfl ?_
  refine Rn.putI dX0_copyFrom_53 fp_X0_18_0 (by first | rfl | exact gC0 (by assumption) | exact gL0 (by assumption)) rfl ?_
  refine Rn.aload_n dX0_copyFrom_56 rfl rfl ?_
  refine Rn.aload_n dX0_copyFrom_57 rfl rfl ?_
  refine Rn.getI dX0_copyFrom_58 fd_X0_43_0 (by first | rfl | exact gC0 (by assumption) | exact gL0 (by assumption)) rfl ?_
  refine Rn.putI dX0_copyFrom_61 fp_X0_43_0 (by first | rfl | exact gC0 (by assumption) | exact gL0 (by assumption)) rfl ?_
  refine Rn.aload_n dX0_copyFrom_64 rfl rfl ?_
  refine Rn.aload_n dX0_copyFrom_65 rfl rfl ?_
  refine Rn.getI dX0_copyFrom_66 fd_X0_46_0 (by first | rfl | exact gC0 (by assumption) | exact gL0 (by assumption)) rfl ?_
  refine Rn.putI dX0_copyFrom_69 fp_X0_46_0 (by first | rfl | exact gC0 (by assumption) | exact gL0 (by assumption)) rfl ?_
  refine Rn.aload_n dX0_copyFrom_72 rfl rfl ?_
  refine Rn.getR dX0_copyFrom_73 fd_X0_21_0 (by first | rfl | exact gC0 (by assumption) | exact gL0 (by assumption)) rfl ?_
  refine Rn.iconst (v := (nI 0)) dX0_copyFrom_76 rfl ?_
  refine Rn.aload_n dX0_copyFrom_77 rfl rfl ?_
  refine Rn.getR dX0_copyFrom_78 fd_X0_21_0 (by first | rfl | exact gC0 (by assumption) | exact gL0 (by assumption)) rfl ?_
  refine Rn.iconst (v := (nI 0)) dX0_copyFrom_81 rfl ?_
  refine Rn.bipush (v := (nI 56)) dX0_copyFrom_82 rfl ?_
  refine Rn.acopy dX0_copyFrom_84 ac_X0_49 (by first | rfl | exact gC1 (by assumption) | exact gC2 (by assumption) | exact gC3 (by assumption) | exact gL1 (by assumption) | exact gL2 (by assumption) | exact gL3 (by assumption) | exact gL4 (by assumption) | exact gL5 (by assumption) | exact gL6 (by assumption)) (by first | rfl | exact gC1 (by assumption) | exact gC2 (by assumption) | exact gC3 (by assumption) | exact gL1 (by assumption) | exact gL2 (by assumption) | exact gL3 (by assumption) | exact gL4 (by assumption) | exact gL5 (by assumption) | exact gL6 (by assumption)) (by decide) (by decide) (by decide) (Nat.le_of_ble_eq_true rfl) ?_
  refine Rn.aload_n dX0_copyFrom_87 rfl rfl ?_
  refine Rn.getR dX0_copyFrom_88 fd_X0_25_0 (by first | rfl | exact gC0 (by assumption) | exact gL0 (by assumption)) rfl ?_
  refine Rn.iconst (v := (nI 0)) dX0_copyFrom_91 rfl ?_
  refine Rn.aload_n dX0_copyFrom_92 rfl rfl ?_
  refine Rn.getR dX0_copyFrom_93 fd_X0_25_0 (by first | rfl | exact gC0 (by assumption) | exact gL0 (by assumption)) rfl ?_
  refine Rn.iconst (v := (nI 0)) dX0_copyFrom_96 rfl ?_
  refine Rn.bipush (v := (nI 72)) dX0_copyFrom_97 rfl ?_
  refine Rn.acopy dX0_copyFrom_99 ac_X0_49 (by first | rfl | exact gC1 (by assumption) | exact gC2 (by assumption) | exact gC3 (by assumption) | exact gL1 (by assumption) | exact gL2 (by assumption) | exact gL3 (by assumption) | exact gL4 (by assumption) | exact gL5 (by assumption) | exact gL6 (by assumption)) (by first | rfl | exact gC1 (by assumption) | exact gC2 (by assumption) | exact gC3 (by assumption) | exact gL1 (by assumption) | exact gL2 (by assumption) | exact gL3 (by assumption) | exact gL4 (by assumption) | exact gL5 (by assumption) | exact gL6 (by assumption)) (by decide) (by decide) (by decide) (Nat.le_of_ble_eq_true rfl) ?_
  refine Rn.aload_n dX0_copyFrom_102 rfl rfl ?_
  refine Rn.getR dX0_copyFrom_103 fd_X0_28_0 (by first | rfl | exact gC0 (by assumption) | exact gL0 (by assumption)) rfl ?_
  refine Rn.iconst (v := (nI 0)) dX0_copyFrom_106 rfl ?_
  refine Rn.aload_n dX0_copyFrom_107 rfl rfl ?_
  refine Rn.getR dX0_copyFrom_108 fd_X0_28_0 (by first | rfl | exact gC0 (by assumption) | exact gL0 (by assumption)) rfl ?_
  refine Rn.iconst (v := (nI 0)) dX0_copyFrom_111 rfl ?_
  refine Rn.sipush (v := (nI 240)) dX0_copyFrom_112 rfl ?_
  refine Rn.acopy dX0_copyFrom_115 ac_X0_49 (by first | rfl | exact gC1 (by assumption) | exact gC2 (by assumption) | exact gC3 (by assumption) | exact gL1 (by assumption) | exact gL2 (by assumption) | exact gL3 (by assumption) | exact gL4 (by assumption) | exact gL5 (by assumption) | exact gL6 (by assumption)) (by first | rfl | exact gC1 (by assumption) | exact gC2 (by assumption) | exact gC3 (by assumption) | exact gL1 (by assumption) | exact gL2 (by assumption) | exact gL3 (by assumption) | exact gL4 (by assumption) | exact gL5 (by assumption) | exact gL6 (by assumption)) (by decide) (by decide) (by decide) (Nat.le_of_ble_eq_true rfl) ?_
  have f9 : ∀ j, j < 9 → j = 0 ∨ j = 1 ∨ j = 2 ∨ j = 3 ∨ j = 4 ∨ j = 5 ∨ j = 6 ∨ j = 7 ∨ j = 8 := fun j hj => by omega
  exact Rn.vret dX0_copyFrom_118 rfl (⟨rfl, fun j hj => by rcases f9 j hj with rfl | rfl | rfl | rfl | rfl | rfl | rfl | rfl | rfl <;> rfl, fun j hj => by rw [zset_ne _ _ (by decide), zset_at, cpy_in hj]; first | done | rfl, fun a ha => by rw [zset_ne _ _ (by omega), zset_ne _ _ (by omega), zset_ne _ _ (by omega), zup_ne _ _ (by omega), zup_ne _ _ (by omega), zup_ne _ _ (by omega), zup_ne _ _ (by omega), zup_ne _ _ (by omega), zup_ne _ _ (by omega), zup_ne _ _ (by omega), zup_ne _ _ (by omega), zup_ne _ _ (by omega)]⟩)
theorem ct_cp90_3 (I : Hi) : Ct G GAM mX0_copyFrom d 0 [.ref 3, .ref 90] I (Rv (fun v J => v = none ∧ (∀ j, j < 9 → J 3 j = I 90 j) ∧ (∀ j, j < 72 → J 5 j = I 92 j) ∧ ∀ a, ¬ (3 ≤ a ∧ a ≤ 6) → J a = I a)) := by
  refine Ct.mk [some (.ref 3), some (.ref 90)] ?_
  refine Rn.aload_n dX0_copyFrom_0 rfl rfl ?_
  refine Rn.aload_n dX0_copyFrom_1 rfl rfl ?_
  refine Rn.getI dX0_copyFrom_2 fd_X0_31_0 (by first | rfl | exact gC0 (by assumption) | exact gL0 (by assumption)) rfl ?_
  refine Rn.putI dX0_copyFrom_5 fp_X0_31_0 (by first | rfl | exact gC0 (by assumption) | exact gL0 (by assumption)) rfl ?_
  refine Rn.aload_n dX0_copyFrom_8 rfl rfl ?_
  refine Rn.aload_n dX0_copyFrom_9 rfl rfl ?_
  refine Rn.getI dX0_copyFrom_10 fd_X0_34_0 (by first | rfl | exact gC0 (by assumption) | exact gL0 (by assumption)) rfl ?_
  refine Rn.putI dX0_copyFrom_13 fp_X0_34_0 (by first | rfl | exact gC0 (by assumption) | exact gL0 (by assumption)) rfl ?_
  refine Rn.aload_n dX0_copyFrom_16 rfl rfl ?_
  refine Rn.aload_n dX0_copyFrom_17 rfl rfl ?_
  refine Rn.getI dX0_copyFrom_18 fd_X0_37_0 (by first | rfl | exact gC0 (by assumption) | exact gL0 (by assumption)) rfl ?_
  refine Rn.putI dX0_copyFrom_21 fp_X0_37_0 (by first | rfl | exact gC0 (by assumption) | exact gL0 (by assumption)) rfl ?_
  refine Rn.aload_n dX0_copyFrom_24 rfl rfl ?_
  refine Rn.aload_n dX0_copyFrom_25 rfl rfl ?_
  refine Rn.getI dX0_copyFrom_26 fd_X0_40_0 (by first | rfl | exact gC0 (by assumption) | exact gL0 (by assumption)) rfl ?_
  refine Rn.putI dX0_copyFrom_29 fp_X0_40_0 (by first | rfl | exact gC0 (by assumption) | exact gL0 (by assumption)) rfl ?_
  refine Rn.aload_n dX0_copyFrom_32 rfl rfl ?_
  refine Rn.aload_n dX0_copyFrom_33 rfl rfl ?_
  refine Rn.getI dX0_copyFrom_34 fd_X0_9_0 (by first | rfl | exact gC0 (by assumption) | exact gL0 (by assumption)) rfl ?_
  refine Rn.putI dX0_copyFrom_37 fp_X0_9_0 (by first | rfl | exact gC0 (by assumption) | exact gL0 (by assumption)) rfl ?_
  refine Rn.aload_n dX0_copyFrom_40 rfl rfl ?_
  refine Rn.aload_n dX0_copyFrom_41 rfl rfl ?_
  refine Rn.getI dX0_copyFrom_42 fd_X0_15_0 (by first | rfl | exact gC0 (by assumption) | exact gL0 (by assumption)) rfl ?_
  refine Rn.putI dX0_copyFrom_45 fp_X0_15_0 (by first | rfl | exact gC0 (by assumption) | exact gL0 (by assumption)) rfl ?_
  refine Rn.aload_n dX0_copyFrom_48 rfl rfl ?_
  refine Rn.aload_n dX0_copyFrom_49 rfl rfl ?_
  refine Rn.getI dX0_copyFrom_50 fd_X0_18_0 (by first | rfl | exact gC0 (by assumption) | exact gL0 (by assumption)) rfl ?_
  refine Rn.putI dX0_copyFrom_53 fp_X0_18_0 (by first | rfl | exact gC0 (by assumption) | exact gL0 (by assumption)) rfl ?_
  refine Rn.aload_n dX0_copyFrom_56 rfl rfl ?_
  refine Rn.aload_n dX0_copyFrom_57 rfl rfl ?_
  refine Rn.getI dX0_copyFrom_58 fd_X0_43_0 (by first | rfl | exact gC0 (by assumption) | exact gL0 (by assumption)) rfl ?_
  refine Rn.putI dX0_copyFrom_61 fp_X0_43_0 (by first | rfl | exact gC0 (by assumption) | exact gL0 (by assumption)) rfl ?_
  refine Rn.aload_n dX0_copyFrom_64 rfl rfl ?_
  refine Rn.aload_n dX0_copyFrom_65 rfl rfl ?_
  refine Rn.getI dX0_copyFrom_66 fd_X0_46_0 (by first | rfl | exact gC0 (by assumption) | exact gL0 (by assumption)) rfl ?_
  refine Rn.putI dX0_copyFrom_69 fp_X0_46_0 (by first | rfl | exact gC0 (by assumption) | exact gL0 (by assumption)) rfl ?_
  refine Rn.aload_n dX0_copyFrom_72 rfl rfl ?_
  refine Rn.getR dX0_copyFrom_73 fd_X0_21_0 (by first | rfl | exact gC0 (by assumption) | exact gL0 (by assumption)) rfl ?_
  refine Rn.iconst (v := (nI 0)) dX0_copyFrom_76 rfl ?_
  refine Rn.aload_n dX0_copyFrom_77 rfl rfl ?_
  refine Rn.getR dX0_copyFrom_78 fd_X0_21_0 (by first | rfl | exact gC0 (by assumption) | exact gL0 (by assumption)) rfl ?_
  refine Rn.iconst (v := (nI 0)) dX0_copyFrom_81 rfl ?_
  refine Rn.bipush (v := (nI 56)) dX0_copyFrom_82 rfl ?_
  refine Rn.acopy dX0_copyFrom_84 ac_X0_49 (by first | rfl | exact gC1 (by assumption) | exact gC2 (by assumption) | exact gC3 (by assumption) | exact gL1 (by assumption) | exact gL2 (by assumption) | exact gL3 (by assumption) | exact gL4 (by assumption) | exact gL5 (by assumption) | exact gL6 (by assumption)) (by first | rfl | exact gC1 (by assumption) | exact gC2 (by assumption) | exact gC3 (by assumption) | exact gL1 (by assumption) | exact gL2 (by assumption) | exact gL3 (by assumption) | exact gL4 (by assumption) | exact gL5 (by assumption) | exact gL6 (by assumption)) (by decide) (by decide) (by decide) (Nat.le_of_ble_eq_true rfl) ?_
  refine Rn.aload_n dX0_copyFrom_87 rfl rfl ?_
  refine Rn.getR dX0_copyFrom_88 fd_X0_25_0 (by first | rfl | exact gC0 (by assumption) | exact gL0 (by assumption)) rfl ?_
  refine Rn.iconst (v := (nI 0)) dX0_copyFrom_91 rfl ?_
  refine Rn.aload_n dX0_copyFrom_92 rfl rfl ?_
  refine Rn.getR dX0_copyFrom_93 fd_X0_25_0 (by first | rfl | exact gC0 (by assumption) | exact gL0 (by assumption)) rfl ?_
  refine Rn.iconst (v := (nI 0)) dX0_copyFrom_96 rfl ?_
  refine Rn.bipush (v := (nI 72)) dX0_copyFrom_97 rfl ?_
  refine Rn.acopy dX0_copyFrom_99 ac_X0_49 (by first | rfl | exact gC1 (by assumption) | exact gC2 (by assumption) | exact gC3 (by assumption) | exact gL1 (by assumption) | exact gL2 (by assumption) | exact gL3 (by assumption) | exact gL4 (by assumption) | exact gL5 (by assumption) | exact gL6 (by assumption)) (by first | rfl | exact gC1 (by assumption) | exact gC2 (by assumption) | exact gC3 (by assumption) | exact gL1 (by assumption) | exact gL2 (by assumption) | exact gL3 (by assumption) | exact gL4 (by assumption) | exact gL5 (by assumption) | exact gL6 (by assumption)) (by decide) (by decide) (by decide) (Nat.le_of_ble_eq_true rfl) ?_
  refine Rn.aload_n dX0_copyFrom_102 rfl rfl ?_
  refine Rn.getR dX0_copyFrom_103 fd_X0_28_0 (by first | rfl | exact gC0 (by assumption) | exact gL0 (by assumption)) rfl ?_
  refine Rn.iconst (v := (nI 0)) dX0_copyFrom_106 rfl ?_
  refine Rn.aload_n dX0_copyFrom_107 rfl rfl ?_
  refine Rn.getR dX0_copyFrom_108 fd_X0_28_0 (by first | rfl | exact gC0 (by assumption) | exact gL0 (by assumption)) rfl ?_
  refine Rn.iconst (v := (nI 0)) dX0_copyFrom_111 rfl ?_
  refine Rn.sipush (v := (nI 240)) dX0_copyFrom_112 rfl ?_
  refine Rn.acopy dX0_copyFrom_115 ac_X0_49 (by first | rfl | exact gC1 (by assumption) | exact gC2 (by assumption) | exact gC3 (by assumption) | exact gL1 (by assumption) | exact gL2 (by assumption) | exact gL3 (by assumption) | exact gL4 (by assumption) | exact gL5 (by assumption) | exact gL6 (by assumption)) (by first | rfl | exact gC1 (by assumption) | exact gC2 (by assumption) | exact gC3 (by assumption) | exact gL1 (by assumption) | exact gL2 (by assumption) | exact gL3 (by assumption) | exact gL4 (by assumption) | exact gL5 (by assumption) | exact gL6 (by assumption)) (by decide) (by decide) (by decide) (Nat.le_of_ble_eq_true rfl) ?_
  have f9 : ∀ j, j < 9 → j = 0 ∨ j = 1 ∨ j = 2 ∨ j = 3 ∨ j = 4 ∨ j = 5 ∨ j = 6 ∨ j = 7 ∨ j = 8 := fun j hj => by omega
  exact Rn.vret dX0_copyFrom_118 rfl (⟨rfl, fun j hj => by rcases f9 j hj with rfl | rfl | rfl | rfl | rfl | rfl | rfl | rfl | rfl <;> rfl, fun j hj => by rw [zset_ne _ _ (by decide), zset_at, cpy_in hj]; first | done | rfl, fun a ha => by rw [zset_ne _ _ (by omega), zset_ne _ _ (by omega), zset_ne _ _ (by omega), zup_ne _ _ (by omega), zup_ne _ _ (by omega), zup_ne _ _ (by omega), zup_ne _ _ (by omega), zup_ne _ _ (by omega), zup_ne _ _ (by omega), zup_ne _ _ (by omega), zup_ne _ _ (by omega), zup_ne _ _ (by omega)]⟩)
theorem ct_cp3_11 (I : Hi) : Ct G GAM mX0_copyFrom d 0 [.ref 11, .ref 3] I (Rv (fun v J => v = none ∧ (∀ j, j < 9 → J 11 j = I 3 j) ∧ (∀ j, j < 72 → J 13 j = I 5 j) ∧ ∀ a, ¬ (11 ≤ a ∧ a ≤ 14) → J a = I a)) := by
  refine Ct.mk [some (.ref 11), some (.ref 3)] ?_
  refine Rn.aload_n dX0_copyFrom_0 rfl rfl ?_
  refine Rn.aload_n dX0_copyFrom_1 rfl rfl ?_
  refine Rn.getI dX0_copyFrom_2 fd_X0_31_0 (by first | rfl | exact gC0 (by assumption) | exact gL0 (by assumption)) rfl ?_
  refine Rn.putI dX0_copyFrom_5 fp_X0_31_0 (by first | rfl | exact gC0 (by assumption) | exact gL0 (by assumption)) rfl ?_
  refine Rn.aload_n dX0_copyFrom_8 rfl rfl ?_
  refine Rn.aload_n dX0_copyFrom_9 rfl rfl ?_
  refine Rn.getI dX0_copyFrom_10 fd_X0_34_0 (by first | rfl | exact gC0 (by assumption) | exact gL0 (by assumption)) rfl ?_
  refine Rn.putI dX0_copyFrom_13 fp_X0_34_0 (by first | rfl | exact gC0 (by assumption) | exact gL0 (by assumption)) rfl ?_
  refine Rn.aload_n dX0_copyFrom_16 rfl rfl ?_
  refine Rn.aload_n dX0_copyFrom_17 rfl rfl ?_
  refine Rn.getI dX0_copyFrom_18 fd_X0_37_0 (by first | rfl | exact gC0 (by assumption) | exact gL0 (by assumption)) rfl ?_
  refine Rn.putI dX0_copyFrom_21 fp_X0_37_0 (by first | rfl | exact gC0 (by assumption) | exact gL0 (by assumption)) rfl ?_
  refine Rn.aload_n dX0_copyFrom_24 rfl rfl ?_
  refine Rn.aload_n dX0_copyFrom_25 rfl rfl ?_
  refine Rn.getI dX0_copyFrom_26 fd_X0_40_0 (by first | rfl | exact gC0 (by assumption) | exact gL0 (by assumption)) rfl ?_
  refine Rn.putI dX0_copyFrom_29 fp_X0_40_0 (by first | rfl | exact gC0 (by assumption) | exact gL0 (by assumption)) rfl ?_
  refine Rn.aload_n dX0_copyFrom_32 rfl rfl ?_
  refine Rn.aload_n dX0_copyFrom_33 rfl rfl ?_
  refine Rn.getI dX0_copyFrom_34 fd_X0_9_0 (by first | rfl | exact gC0 (by assumption) | exact gL0 (by assumption)) rfl ?_
  refine Rn.putI dX0_copyFrom_37 fp_X0_9_0 (by first | rfl | exact gC0 (by assumption) | exact gL0 (by assumption)) rfl ?_
  refine Rn.aload_n dX0_copyFrom_40 rfl rfl ?_
  refine Rn.aload_n dX0_copyFrom_41 rfl rfl ?_
  refine Rn.getI dX0_copyFrom_42 fd_X0_15_0 (by first | rfl | exact gC0 (by assumption) | exact gL0 (by assumption)) rfl ?_
  refine Rn.putI dX0_copyFrom_45 fp_X0_15_0 (by first | rfl | exact gC0 (by assumption) | exact gL0 (by assumption)) rfl ?_
  refine Rn.aload_n dX0_copyFrom_48 rfl rfl ?_
  refine Rn.aload_n dX0_copyFrom_49 rfl rfl ?_
  refine Rn.getI dX0_copyFrom_50 fd_X0_18_0 (by first | rfl | exact gC0 (by assumption) | exact gL0 (by assumption)) rfl ?_
  refine Rn.putI dX0_copyFrom_53 fp_X0_18_0 (by first | rfl | exact gC0 (by assumption) | exact gL0 (by assumption)) rfl ?_
  refine Rn.aload_n dX0_copyFrom_56 rfl rfl ?_
  refine Rn.aload_n dX0_copyFrom_57 rfl rfl ?_
  refine Rn.getI dX0_copyFrom_58 fd_X0_43_0 (by first | rfl | exact gC0 (by assumption) | exact gL0 (by assumption)) rfl ?_
  refine Rn.putI dX0_copyFrom_61 fp_X0_43_0 (by first | rfl | exact gC0 (by assumption) | exact gL0 (by assumption)) rfl ?_
  refine Rn.aload_n dX0_copyFrom_64 rfl rfl ?_
  refine Rn.aload_n dX0_copyFrom_65 rfl rfl ?_
  refine Rn.getI dX0_copyFrom_66 fd_X0_46_0 (by first | rfl | exact gC0 (by assumption) | exact gL0 (by assumption)) rfl ?_
  refine Rn.putI dX0_copyFrom_69 fp_X0_46_0 (by first | rfl | exact gC0 (by assumption) | exact gL0 (by assumption)) rfl ?_
  refine Rn.aload_n dX0_copyFrom_72 rfl rfl ?_
  refine Rn.getR dX0_copyFrom_73 fd_X0_21_0 (by first | rfl | exact gC0 (by assumption) | exact gL0 (by assumption)) rfl ?_
  refine Rn.iconst (v := (nI 0)) dX0_copyFrom_76 rfl ?_
  refine Rn.aload_n dX0_copyFrom_77 rfl rfl ?_
  refine Rn.getR dX0_copyFrom_78 fd_X0_21_0 (by first | rfl | exact gC0 (by assumption) | exact gL0 (by assumption)) rfl ?_
  refine Rn.iconst (v := (nI 0)) dX0_copyFrom_81 rfl ?_
  refine Rn.bipush (v := (nI 56)) dX0_copyFrom_82 rfl ?_
  refine Rn.acopy dX0_copyFrom_84 ac_X0_49 (by first | rfl | exact gC1 (by assumption) | exact gC2 (by assumption) | exact gC3 (by assumption) | exact gL1 (by assumption) | exact gL2 (by assumption) | exact gL3 (by assumption) | exact gL4 (by assumption) | exact gL5 (by assumption) | exact gL6 (by assumption)) (by first | rfl | exact gC1 (by assumption) | exact gC2 (by assumption) | exact gC3 (by assumption) | exact gL1 (by assumption) | exact gL2 (by assumption) | exact gL3 (by assumption) | exact gL4 (by assumption) | exact gL5 (by assumption) | exact gL6 (by assumption)) (by decide) (by decide) (by decide) (Nat.le_of_ble_eq_true rfl) ?_
  refine Rn.aload_n dX0_copyFrom_87 rfl rfl ?_
  refine Rn.getR dX0_copyFrom_88 fd_X0_25_0 (by first | rfl | exact gC0 (by assumption) | exact gL0 (by assumption)) rfl ?_
  refine Rn.iconst (v := (nI 0)) dX0_copyFrom_91 rfl ?_
  refine Rn.aload_n dX0_copyFrom_92 rfl rfl ?_
  refine Rn.getR dX0_copyFrom_93 fd_X0_25_0 (by first | rfl | exact gC0 (by assumption) | exact gL0 (by assumption)) rfl ?_
  refine Rn.iconst (v := (nI 0)) dX0_copyFrom_96 rfl ?_
  refine Rn.bipush (v := (nI 72)) dX0_copyFrom_97 rfl ?_
  refine Rn.acopy dX0_copyFrom_99 ac_X0_49 (by first | rfl | exact gC1 (by assumption) | exact gC2 (by assumption) | exact gC3 (by assumption) | exact gL1 (by assumption) | exact gL2 (by assumption) | exact gL3 (by assumption) | exact gL4 (by assumption) | exact gL5 (by assumption) | exact gL6 (by assumption)) (by first | rfl | exact gC1 (by assumption) | exact gC2 (by assumption) | exact gC3 (by assumption) | exact gL1 (by assumption) | exact gL2 (by assumption) | exact gL3 (by assumption) | exact gL4 (by assumption) | exact gL5 (by assumption) | exact gL6 (by assumption)) (by decide) (by decide) (by decide) (Nat.le_of_ble_eq_true rfl) ?_
  refine Rn.aload_n dX0_copyFrom_102 rfl rfl ?_
  refine Rn.getR dX0_copyFrom_103 fd_X0_28_0 (by first | rfl | exact gC0 (by assumption) | exact gL0 (by assumption)) rfl ?_
  refine Rn.iconst (v := (nI 0)) dX0_copyFrom_106 rfl ?_
  refine Rn.aload_n dX0_copyFrom_107 rfl rfl ?_
  refine Rn.getR dX0_copyFrom_108 fd_X0_28_0 (by first | rfl | exact gC0 (by assumption) | exact gL0 (by assumption)) rfl ?_
  refine Rn.iconst (v := (nI 0)) dX0_copyFrom_111 rfl ?_
  refine Rn.sipush (v := (nI 240)) dX0_copyFrom_112 rfl ?_
  refine Rn.acopy dX0_copyFrom_115 ac_X0_49 (by first | rfl | exact gC1 (by assumption) | exact gC2 (by assumption) | exact gC3 (by assumption) | exact gL1 (by assumption) | exact gL2 (by assumption) | exact gL3 (by assumption) | exact gL4 (by assumption) | exact gL5 (by assumption) | exact gL6 (by assumption)) (by first | rfl | exact gC1 (by assumption) | exact gC2 (by assumption) | exact gC3 (by assumption) | exact gL1 (by assumption) | exact gL2 (by assumption) | exact gL3 (by assumption) | exact gL4 (by assumption) | exact gL5 (by assumption) | exact gL6 (by assumption)) (by decide) (by decide) (by decide) (Nat.le_of_ble_eq_true rfl) ?_
  have f9 : ∀ j, j < 9 → j = 0 ∨ j = 1 ∨ j = 2 ∨ j = 3 ∨ j = 4 ∨ j = 5 ∨ j = 6 ∨ j = 7 ∨ j = 8 := fun j hj => by omega
  exact Rn.vret dX0_copyFrom_118 rfl (⟨rfl, fun j hj => by rcases f9 j hj with rfl | rfl | rfl | rfl | rfl | rfl | rfl | rfl | rfl <;> rfl, fun j hj => by rw [zset_ne _ _ (by decide), zset_at, cpy_in hj]; first | done | rfl, fun a ha => by rw [zset_ne _ _ (by omega), zset_ne _ _ (by omega), zset_ne _ _ (by omega), zup_ne _ _ (by omega), zup_ne _ _ (by omega), zup_ne _ _ (by omega), zup_ne _ _ (by omega), zup_ne _ _ (by omega), zup_ne _ _ (by omega), zup_ne _ _ (by omega), zup_ne _ _ (by omega), zup_ne _ _ (by omega)]⟩)
theorem ct_cp11_3 (I : Hi) : Ct G GAM mX0_copyFrom d 0 [.ref 3, .ref 11] I (Rv (fun v J => v = none ∧ (∀ j, j < 9 → J 3 j = I 11 j) ∧ (∀ j, j < 72 → J 5 j = I 13 j) ∧ ∀ a, ¬ (3 ≤ a ∧ a ≤ 6) → J a = I a)) := by
  refine Ct.mk [some (.ref 3), some (.ref 11)] ?_
  refine Rn.aload_n dX0_copyFrom_0 rfl rfl ?_
  refine Rn.aload_n dX0_copyFrom_1 rfl rfl ?_
  refine Rn.getI dX0_copyFrom_2 fd_X0_31_0 (by first | rfl | exact gC0 (by assumption) | exact gL0 (by assumption)) rfl ?_
  refine Rn.putI dX0_copyFrom_5 fp_X0_31_0 (by first | rfl | exact gC0 (by assumption) | exact gL0 (by assumption)) rfl ?_
  refine Rn.aload_n dX0_copyFrom_8 rfl rfl ?_
  refine Rn.aload_n dX0_copyFrom_9 rfl rfl ?_
  refine Rn.getI dX0_copyFrom_10 fd_X0_34_0 (by first | rfl | exact gC0 (by assumption) | exact gL0 (by assumption)) rfl ?_
  refine Rn.putI dX0_copyFrom_13 fp_X0_34_0 (by first | rfl | exact gC0 (by assumption) | exact gL0 (by assumption)) rfl ?_
  refine Rn.aload_n dX0_copyFrom_16 rfl rfl ?_
  refine Rn.aload_n dX0_copyFrom_17 rfl rfl ?_
  refine Rn.getI dX0_copyFrom_18 fd_X0_37_0 (by first | rfl | exact gC0 (by assumption) | exact gL0 (by assumption)) rfl ?_
  refine Rn.putI dX0_copyFrom_21 fp_X0_37_0 (by first | rfl | exact gC0 (by assumption) | exact gL0 (by assumption)) rfl ?_
  refine Rn.aload_n dX0_copyFrom_24 rfl rfl ?_
  refine Rn.aload_n dX0_copyFrom_25 rfl rfl ?_
  refine Rn.getI dX0_copyFrom_26 fd_X0_40_0 (by first | rfl | exact gC0 (by assumption) | exact gL0 (by assumption)) rfl ?_
  refine Rn.putI dX0_copyFrom_29 fp_X0_40_0 (by first | rfl | exact gC0 (by assumption) | exact gL0 (by assumption)) rfl ?_
  refine Rn.aload_n dX0_copyFrom_32 rfl rfl ?_
  refine Rn.aload_n dX0_copyFrom_33 rfl rfl ?_
  refine Rn.getI dX0_copyFrom_34 fd_X0_9_0 (by first | rfl | exact gC0 (by assumption) | exact gL0 (by assumption)) rfl ?_
  refine Rn.putI dX0_copyFrom_37 fp_X0_9_0 (by first | rfl | exact gC0 (by assumption) | exact gL0 (by assumption)) rfl ?_
  refine Rn.aload_n dX0_copyFrom_40 rfl rfl ?_
  refine Rn.aload_n dX0_copyFrom_41 rfl rfl ?_
  refine Rn.getI dX0_copyFrom_42 fd_X0_15_0 (by first | rfl | exact gC0 (by assumption) | exact gL0 (by assumption)) rfl ?_
  refine Rn.putI dX0_copyFrom_45 fp_X0_15_0 (by first | rfl | exact gC0 (by assumption) | exact gL0 (by assumption)) rfl ?_
  refine Rn.aload_n dX0_copyFrom_48 rfl rfl ?_
  refine Rn.aload_n dX0_copyFrom_49 rfl rfl ?_
  refine Rn.getI dX0_copyFrom_50 fd_X0_18_0 (by first | rfl | exact gC0 (by assumption) | exact gL0 (by assumption)) rfl ?_
  refine Rn.putI dX0_copyFrom_53 fp_X0_18_0 (by first | rfl | exact gC0 (by assumption) | exact gL0 (by assumption)) rfl ?_
  refine Rn.aload_n dX0_copyFrom_56 rfl rfl ?_
  refine Rn.aload_n dX0_copyFrom_57 rfl rfl ?_
  refine Rn.getI dX0_copyFrom_58 fd_X0_43_0 (by first | rfl | exact gC0 (by assumption) | exact gL0 (by assumption)) rfl ?_
  refine Rn.putI dX0_copyFrom_61 fp_X0_43_0 (by first | rfl | exact gC0 (by assumption) | exact gL0 (by assumption)) rfl ?_
  refine Rn.aload_n dX0_copyFrom_64 rfl rfl ?_
  refine Rn.aload_n dX0_copyFrom_65 rfl rfl ?_
  refine Rn.getI dX0_copyFrom_66 fd_X0_46_0 (by first | rfl | exact gC0 (by assumption) | exact gL0 (by assumption)) rfl ?_
  refine Rn.putI dX0_copyFrom_69 fp_X0_46_0 (by first | rfl | exact gC0 (by assumption) | exact gL0 (by assumption)) rfl ?_
  refine Rn.aload_n dX0_copyFrom_72 rfl rfl ?_
  refine Rn.getR dX0_copyFrom_73 fd_X0_21_0 (by first | rfl | exact gC0 (by assumption) | exact gL0 (by assumption)) rfl ?_
  refine Rn.iconst (v := (nI 0)) dX0_copyFrom_76 rfl ?_
  refine Rn.aload_n dX0_copyFrom_77 rfl rfl ?_
  refine Rn.getR dX0_copyFrom_78 fd_X0_21_0 (by first | rfl | exact gC0 (by assumption) | exact gL0 (by assumption)) rfl ?_
  refine Rn.iconst (v := (nI 0)) dX0_copyFrom_81 rfl ?_
  refine Rn.bipush (v := (nI 56)) dX0_copyFrom_82 rfl ?_
  refine Rn.acopy dX0_copyFrom_84 ac_X0_49 (by first | rfl | exact gC1 (by assumption) | exact gC2 (by assumption) | exact gC3 (by assumption) | exact gL1 (by assumption) | exact gL2 (by assumption) | exact gL3 (by assumption) | exact gL4 (by assumption) | exact gL5 (by assumption) | exact gL6 (by assumption)) (by first | rfl | exact gC1 (by assumption) | exact gC2 (by assumption) | exact gC3 (by assumption) | exact gL1 (by assumption) | exact gL2 (by assumption) | exact gL3 (by assumption) | exact gL4 (by assumption) | exact gL5 (by assumption) | exact gL6 (by assumption)) (by decide) (by decide) (by decide) (Nat.le_of_ble_eq_true rfl) ?_
  refine Rn.aload_n dX0_copyFrom_87 rfl rfl ?_
  refine Rn.getR dX0_copyFrom_88 fd_X0_25_0 (by first | rfl | exact gC0 (by assumption) | exact gL0 (by assumption)) rfl ?_
  refine Rn.iconst (v := (nI 0)) dX0_copyFrom_91 rfl ?_
  refine Rn.aload_n dX0_copyFrom_92 rfl rfl ?_
  refine Rn.getR dX0_copyFrom_93 fd_X0_25_0 (by first | rfl | exact gC0 (by assumption) | exact gL0 (by assumption)) rfl ?_
  refine Rn.iconst (v := (nI 0)) dX0_copyFrom_96 rfl ?_
  refine Rn.bipush (v := (nI 72)) dX0_copyFrom_97 rfl ?_
  refine Rn.acopy dX0_copyFrom_99 ac_X0_49 (by first | rfl | exact gC1 (by assumption) | exact gC2 (by assumption) | exact gC3 (by assumption) | exact gL1 (by assumption) | exact gL2 (by assumption) | exact gL3 (by assumption) | exact gL4 (by assumption) | exact gL5 (by assumption) | exact gL6 (by assumption)) (by first | rfl | exact gC1 (by assumption) | exact gC2 (by assumption) | exact gC3 (by assumption) | exact gL1 (by assumption) | exact gL2 (by assumption) | exact gL3 (by assumption) | exact gL4 (by assumption) | exact gL5 (by assumption) | exact gL6 (by assumption)) (by decide) (by decide) (by decide) (Nat.le_of_ble_eq_true rfl) ?_
  refine Rn.aload_n dX0_copyFrom_102 rfl rfl ?_
  refine Rn.getR dX0_copyFrom_103 fd_X0_28_0 (by first | rfl | exact gC0 (by assumption) | exact gL0 (by assumption)) rfl ?_
  refine Rn.iconst (v := (nI 0)) dX0_copyFrom_106 rfl ?_
  refine Rn.aload_n dX0_copyFrom_107 rfl rfl ?_
  refine Rn.getR dX0_copyFrom_108 fd_X0_28_0 (by first | rfl | exact gC0 (by assumption) | exact gL0 (by assumption)) rfl ?_
  refine Rn.iconst (v := (nI 0)) dX0_copyFrom_111 rfl ?_
  refine Rn.sipush (v := (nI 240)) dX0_copyFrom_112 rfl ?_
  refine Rn.acopy dX0_copyFrom_115 ac_X0_49 (by first | rfl | exact gC1 (by assumption) | exact gC2 (by assumption) | exact gC3 (by assumption) | exact gL1 (by assumption) | exact gL2 (by assumption) | exact gL3 (by assumption) | exact gL4 (by assumption) | exact gL5 (by assumption) | exact gL6 (by assumption)) (by first | rfl | exact gC1 (by assumption) | exact gC2 (by assumption) | exact gC3 (by assumption) | exact gL1 (by assumption) | exact gL2 (by assumption) | exact gL3 (by assumption) | exact gL4 (by assumption) | exact gL5 (by assumption) | exact gL6 (by assumption)) (by decide) (by decide) (by decide) (Nat.le_of_ble_eq_true rfl) ?_
  have f9 : ∀ j, j < 9 → j = 0 ∨ j = 1 ∨ j = 2 ∨ j = 3 ∨ j = 4 ∨ j = 5 ∨ j = 6 ∨ j = 7 ∨ j = 8 := fun j hj => by omega
  exact Rn.vret dX0_copyFrom_118 rfl (⟨rfl, fun j hj => by rcases f9 j hj with rfl | rfl | rfl | rfl | rfl | rfl | rfl | rfl | rfl <;> rfl, fun j hj => by rw [zset_ne _ _ (by decide), zset_at, cpy_in hj]; first | done | rfl, fun a ha => by rw [zset_ne _ _ (by omega), zset_ne _ _ (by omega), zset_ne _ _ (by omega), zup_ne _ _ (by omega), zup_ne _ _ (by omega), zup_ne _ _ (by omega), zup_ne _ _ (by omega), zup_ne _ _ (by omega), zup_ne _ _ (by omega), zup_ne _ _ (by omega), zup_ne _ _ (by omega), zup_ne _ _ (by omega)]⟩)
theorem ct_cl16_30 (I : Hi) : Ct G GAM mX2_copyFrom d 0 [.ref 30, .ref 16] I (Rv (fun v J => v = none ∧ ∀ a, ¬ (30 ≤ a ∧ a ≤ 36) → J a = I a)) := by
  refine Ct.mk [some (.ref 30), some (.ref 16)] ?_
  refine Rn.aload_n dX2_copyFrom_0 rfl rfl ?_
  refine Rn.aload_n dX2_copyFrom_1 rfl rfl ?_
  refine Rn.getI dX2_copyFrom_2 fd_X2_9_2 (by first | rfl | exact gC0 (by assumption) | exact gL0 (by assumption)) rfl ?_
  refine Rn.putI dX2_copyFrom_5 fp_X2_9_2 (by first | rfl | exact gC0 (by assumption) | exact gL0 (by assumption)) rfl ?_
  refine Rn.aload_n dX2_copyFrom_8 rfl rfl ?_
  refine Rn.aload_n dX2_copyFrom_9 rfl rfl ?_
  refine Rn.getI dX2_copyFrom_10 fd_X2_34_2 (by first | rfl | exact gC0 (by assumption) | exact gL0 (by assumption)) rfl ?_
  refine Rn.putI dX2_copyFrom_13 fp_X2_34_2 (by first | rfl | exact gC0 (by assumption) | exact gL0 (by assumption)) rfl ?_
  refine Rn.aload_n dX2_copyFrom_16 rfl rfl ?_
  refine Rn.getR dX2_copyFrom_17 fd_X2_15_2 (by first | rfl | exact gC0 (by assumption) | exact gL0 (by assumption)) rfl ?_
  refine Rn.iconst (v := (nI 0)) dX2_copyFrom_20 rfl ?_
  refine Rn.aload_n dX2_copyFrom_21 rfl rfl ?_
  refine Rn.getR dX2_copyFrom_22 fd_X2_15_2 (by first | rfl | exact gC0 (by assumption) | exact gL0 (by assumption)) rfl ?_
  refine Rn.iconst (v := (nI 0)) dX2_copyFrom_25 rfl ?_
  refine Rn.bipush (v := (nI 12)) dX2_copyFrom_26 rfl ?_
  refine Rn.acopy dX2_copyFrom_28 ac_X2_37 (by first | rfl | exact gC1 (by assumption) | exact gC2 (by assumption) | exact gC3 (by assumption) | exact gL1 (by assumption) | exact gL2 (by assumption) | exact gL3 (by assumption) | exact gL4 (by assumption) | exact gL5 (by assumption) | exact gL6 (by assumption)) (by first | rfl | exact gC1 (by assumption) | exact gC2 (by assumption) | exact gC3 (by assumption) | exact gL1 (by assumption) | exact gL2 (by assumption) | exact gL3 (by assumption) | exact gL4 (by assumption) | exact gL5 (by assumption) | exact gL6 (by assumption)) (by decide) (by decide) (by decide) (Nat.le_of_ble_eq_true rfl) ?_
  refine Rn.aload_n dX2_copyFrom_31 rfl rfl ?_
  refine Rn.getR dX2_copyFrom_32 fd_X2_19_2 (by first | rfl | exact gC0 (by assumption) | exact gL0 (by assumption)) rfl ?_
  refine Rn.iconst (v := (nI 0)) dX2_copyFrom_35 rfl ?_
  refine Rn.aload_n dX2_copyFrom_36 rfl rfl ?_
  refine Rn.getR dX2_copyFrom_37 fd_X2_19_2 (by first | rfl | exact gC0 (by assumption) | exact gL0 (by assumption)) rfl ?_
  refine Rn.iconst (v := (nI 0)) dX2_copyFrom_40 rfl ?_
  refine Rn.bipush (v := (nI 12)) dX2_copyFrom_41 rfl ?_
  refine Rn.acopy dX2_copyFrom_43 ac_X2_37 (by first | rfl | exact gC1 (by assumption) | exact gC2 (by assumption) | exact gC3 (by assumption) | exact gL1 (by assumption) | exact gL2 (by assumption) | exact gL3 (by assumption) | exact gL4 (by assumption) | exact gL5 (by assumption) | exact gL6 (by assumption)) (by first | rfl | exact gC1 (by assumption) | exact gC2 (by assumption) | exact gC3 (by assumption) | exact gL1 (by assumption) | exact gL2 (by assumption) | exact gL3 (by assumption) | exact gL4 (by assumption) | exact gL5 (by assumption) | exact gL6 (by assumption)) (by decide) (by decide) (by decide) (Nat.le_of_ble_eq_true rfl) ?_
  refine Rn.aload_n dX2_copyFrom_46 rfl rfl ?_
  refine Rn.getR dX2_copyFrom_47 fd_X2_22_2 (by first | rfl | exact gC0 (by assumption) | exact gL0 (by assumption)) rfl ?_
  refine Rn.iconst (v := (nI 0)) dX2_copyFrom_50 rfl ?_
  refine Rn.aload_n dX2_copyFrom_51 rfl rfl ?_
  refine Rn.getR dX2_copyFrom_52 fd_X2_22_2 (by first | rfl | exact gC0 (by assumption) | exact gL0 (by assumption)) rfl ?_
  refine Rn.iconst (v := (nI 0)) dX2_copyFrom_55 rfl ?_
  refine Rn.bipush (v := (nI 12)) dX2_copyFrom_56 rfl ?_
  refine Rn.acopy dX2_copyFrom_58 ac_X2_37 (by first | rfl | exact gC1 (by assumption) | exact gC2 (by assumption) | exact gC3 (by assumption) | exact gL1 (by assumption) | exact gL2 (by assumption) | exact gL3 (by assumption) | exact gL4 (by assumption) | exact gL5 (by assumption) | exact gL6 (by assumption)) (by first | rfl | exact gC1 (by assumption) | exact gC2 (by assumption) | exact gC3 (by assumption) | exact gL1 (by assumption) | exact gL2 (by assumption) | exact gL3 (by assumption) | exact gL4 (by assumption) | exact gL5 (by assumption) | exact gL6 (by assumption)) (by decide) (by decide) (by decide) (Nat.le_of_ble_eq_true rfl) ?_
  refine Rn.aload_n dX2_copyFrom_61 rfl rfl ?_
  refine Rn.getR dX2_copyFrom_62 fd_X2_25_2 (by first | rfl | exact gC0 (by assumption) | exact gL0 (by assumption)) rfl ?_
  refine Rn.iconst (v := (nI 0)) dX2_copyFrom_65 rfl ?_
  refine Rn.aload_n dX2_copyFrom_66 rfl rfl ?_
  refine Rn.getR dX2_copyFrom_67 fd_X2_25_2 (by first | rfl | exact gC0 (by assumption) | exact gL0 (by assumption)) rfl ?_
  refine Rn.iconst (v := (nI 0)) dX2_copyFrom_70 rfl ?_
  refine Rn.sipush (v := (nI 400)) dX2_copyFrom_71 rfl ?_
  refine Rn.acopy dX2_copyFrom_74 ac_X2_37 (by first | rfl | exact gC1 (by assumption) | exact gC2 (by assumption) | exact gC3 (by assumption) | exact gL1 (by assumption) | exact gL2 (by assumption) | exact gL3 (by assumption) | exact gL4 (by assumption) | exact gL5 (by assumption) | exact gL6 (by assumption)) (by first | rfl | exact gC1 (by assumption) | exact gC2 (by assumption) | exact gC3 (by assumption) | exact gL1 (by assumption) | exact gL2 (by assumption) | exact gL3 (by assumption) | exact gL4 (by assumption) | exact gL5 (by assumption) | exact gL6 (by assumption)) (by decide) (by decide) (by decide) (Nat.le_of_ble_eq_true rfl) ?_
  exact Rn.vret dX2_copyFrom_77 rfl (⟨rfl, fun a ha => by rw [zset_ne _ _ (by omega), zset_ne _ _ (by omega), zset_ne _ _ (by omega), zset_ne _ _ (by omega), zup_ne _ _ (by omega), zup_ne _ _ (by omega)]⟩)
theorem ct_cl30_16 (I : Hi) : Ct G GAM mX2_copyFrom d 0 [.ref 16, .ref 30] I (Rv (fun v J => v = none ∧ ∀ a, ¬ (16 ≤ a ∧ a ≤ 22) → J a = I a)) := by
  refine Ct.mk [some (.ref 16), some (.ref 30)] ?_
  refine Rn.aload_n dX2_copyFrom_0 rfl rfl ?_
  refine Rn.aload_n dX2_copyFrom_1 rfl rfl ?_
  refine Rn.getI dX2_copyFrom_2 fd_X2_9_2 (by first | rfl | exact gC0 (by assumption) | exact gL0 (by assumption)) rfl ?_
  refine Rn.putI dX2_copyFrom_5 fp_X2_9_2 (by first | rfl | exact gC0 (by assumption) | exact gL0 (by assumption)) rfl ?_
  refine Rn.aload_n dX2_copyFrom_8 rfl rfl ?_
  refine Rn.aload_n dX2_copyFrom_9 rfl rfl ?_
  refine Rn.getI dX2_copyFrom_10 fd_X2_34_2 (by first | rfl | exact gC0 (by assumption) | exact gL0 (by assumption)) rfl ?_
  refine Rn.putI dX2_copyFrom_13 fp_X2_34_2 (by first | rfl | exact gC0 (by assumption) | exact gL0 (by assumption)) rfl ?_
  refine Rn.aload_n dX2_copyFrom_16 rfl rfl ?_
  refine Rn.getR dX2_copyFrom_17 fd_X2_15_2 (by first | rfl | exact gC0 (by assumption) | exact gL0 (by assumption)) rfl ?_
  refine Rn.iconst (v := (nI 0)) dX2_copyFrom_20 rfl ?_
  refine Rn.aload_n dX2_copyFrom_21 rfl rfl ?_
  refine Rn.getR dX2_copyFrom_22 fd_X2_15_2 (by first | rfl | exact gC0 (by assumption) | exact gL0 (by assumption)) rfl ?_
  refine Rn.iconst (v := (nI 0)) dX2_copyFrom_25 rfl ?_
  refine Rn.bipush (v := (nI 12)) dX2_copyFrom_26 rfl ?_
  refine Rn.acopy dX2_copyFrom_28 ac_X2_37 (by first | rfl | exact gC1 (by assumption) | exact gC2 (by assumption) | exact gC3 (by assumption) | exact gL1 (by assumption) | exact gL2 (by assumption) | exact gL3 (by assumption) | exact gL4 (by assumption) | exact gL5 (by assumption) | exact gL6 (by assumption)) (by first | rfl | exact gC1 (by assumption) | exact gC2 (by assumption) | exact gC3 (by assumption) | exact gL1 (by assumption) | exact gL2 (by assumption) | exact gL3 (by assumption) | exact gL4 (by assumption) | exact gL5 (by assumption) | exact gL6 (by assumption)) (by decide) (by decide) (by decide) (Nat.le_of_ble_eq_true rfl) ?_
  refine Rn.aload_n dX2_copyFrom_31 rfl rfl ?_
  refine Rn.getR dX2_copyFrom_32 fd_X2_19_2 (by first | rfl | exact gC0 (by assumption) | exact gL0 (by assumption)) rfl ?_
  refine Rn.iconst (v := (nI 0)) dX2_copyFrom_35 rfl ?_
  refine Rn.aload_n dX2_copyFrom_36 rfl rfl ?_
  refine Rn.getR dX2_copyFrom_37 fd_X2_19_2 (by first | rfl | exact gC0 (by assumption) | exact gL0 (by assumption)) rfl ?_
  refine Rn.iconst (v := (nI 0)) dX2_copyFrom_40 rfl ?_
  refine Rn.bipush (v := (nI 12)) dX2_copyFrom_41 rfl ?_
  refine Rn.acopy dX2_copyFrom_43 ac_X2_37 (by first | rfl | exact gC1 (by assumption) | exact gC2 (by assumption) | exact gC3 (by assumption) | exact gL1 (by assumption) | exact gL2 (by assumption) | exact gL3 (by assumption) | exact gL4 (by assumption) | exact gL5 (by assumption) | exact gL6 (by assumption)) (by first | rfl | exact gC1 (by assumption) | exact gC2 (by assumption) | exact gC3 (by assumption) | exact gL1 (by assumption) | exact gL2 (by assumption) | exact gL3 (by assumption) | exact gL4 (by assumption) | exact gL5 (by assumption) | exact gL6 (by assumption)) (by decide) (by decide) (by decide) (Nat.le_of_ble_eq_true rfl) ?_
  refine Rn.aload_n dX2_copyFrom_46 rfl rfl ?_
  refine Rn.getR dX2_copyFrom_47 fd_X2_22_2 (by first | rfl | exact gC0 (by assumption) | exact gL0 (by assumption)) rfl ?_
  refine Rn.iconst (v := (nI 0)) dX2_copyFrom_50 rfl ?_
  refine Rn.aload_n dX2_copyFrom_51 rfl rfl ?_
  refine Rn.getR dX2_copyFrom_52 fd_X2_22_2 (by first | rfl | exact gC0 (by assumption) | exact gL0 (by assumption)) rfl ?_
  refine Rn.iconst (v := (nI 0)) dX2_copyFrom_55 rfl ?_
  refine Rn.bipush (v := (nI 12)) dX2_copyFrom_56 rfl ?_
  refine Rn.acopy dX2_copyFrom_58 ac_X2_37 (by first | rfl | exact gC1 (by assumption) | exact gC2 (by assumption) | exact gC3 (by assumption) | exact gL1 (by assumption) | exact gL2 (by assumption) | exact gL3 (by assumption) | exact gL4 (by assumption) | exact gL5 (by assumption) | exact gL6 (by assumption)) (by first | rfl | exact gC1 (by assumption) | exact gC2 (by assumption) | exact gC3 (by assumption) | exact gL1 (by assumption) | exact gL2 (by assumption) | exact gL3 (by assumption) | exact gL4 (by assumption) | exact gL5 (by assumption) | exact gL6 (by assumption)) (by decide) (by decide) (by decide) (Nat.le_of_ble_eq_true rfl) ?_
  refine Rn.aload_n dX2_copyFrom_61 rfl rfl ?_
  refine Rn.getR dX2_copyFrom_62 fd_X2_25_2 (by first | rfl | exact gC0 (by assumption) | exact gL0 (by assumption)) rfl ?_
  refine Rn.iconst (v := (nI 0)) dX2_copyFrom_65 rfl ?_
  refine Rn.aload_n dX2_copyFrom_66 rfl rfl ?_
  refine Rn.getR dX2_copyFrom_67 fd_X2_25_2 (by first | rfl | exact gC0 (by assumption) | exact gL0 (by assumption)) rfl ?_
  refine Rn.iconst (v := (nI 0)) dX2_copyFrom_70 rfl ?_
  refine Rn.sipush (v := (nI 400)) dX2_copyFrom_71 rfl ?_
  refine Rn.acopy dX2_copyFrom_74 ac_X2_37 (by first | rfl | exact gC1 (by assumption) | exact gC2 (by assumption) | exact gC3 (by assumption) | exact gL1 (by assumption) | exact gL2 (by assumption) | exact gL3 (by assumption) | exact gL4 (by assumption) | exact gL5 (by assumption) | exact gL6 (by assumption)) (by first | rfl | exact gC1 (by assumption) | exact gC2 (by assumption) | exact gC3 (by assumption) | exact gL1 (by assumption) | exact gL2 (by assumption) | exact gL3 (by assumption) | exact gL4 (by assumption) | exact gL5 (by assumption) | exact gL6 (by assumption)) (by decide) (by decide) (by decide) (Nat.le_of_ble_eq_true rfl) ?_
  exact Rn.vret dX2_copyFrom_77 rfl (⟨rfl, fun a ha => by rw [zset_ne _ _ (by omega), zset_ne _ _ (by omega), zset_ne _ _ (by omega), zset_ne _ _ (by omega), zup_ne _ _ (by omega), zup_ne _ _ (by omega)]⟩)
end Kcp
