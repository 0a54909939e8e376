theorem dX5_remember_13 : decode cX5_remember 13 = .ok (.aload_n 0, 1) := by decide +kernel
theorem dX5_remember_14 : decode cX5_remember 14 = .ok (.getfield 18, 3) := by decide +kernel
theorem dX5_remember_17 : decode cX5_remember 17 = .ok (.ifCond .lt 24, 3) := by decide +kernel
theorem dX5_remember_20 : decode cX5_remember 20 = .ok (.aload_n 0, 1) := by decide +kernel
theorem dX5_remember_21 : decode cX5_remember 21 = .ok (.getfield 18, 3) := by decide +kernel
theorem dX5_remember_24 : decode cX5_remember 24 = .ok (.bipush 12, 2) := by decide +kernel
theorem dX5_remember_26 : decode cX5_remember 26 = .ok (.if_icmp .ge 15, 3) := by decide +kernel
theorem dX5_remember_29 : decode cX5_remember 29 = .ok (.aload_n 0, 1) := by decide +kernel
theorem dX5_remember_30 : decode cX5_remember 30 = .ok (.getfield 11, 3) := by decide +kernel
theorem dX5_remember_33 : decode cX5_remember 33 = .ok (.aload_n 0, 1) := by decide +kernel
theorem dX5_remember_34 : decode cX5_remember 34 = .ok (.getfield 18, 3) := by decide +kernel
theorem dX5_remember_37 : decode cX5_remember 37 = .ok (.aaload, 1) := by decide +kernel
theorem dX5_remember_38 : decode cX5_remember 38 = .ok (.goto 4, 3) := by decide +kernel
theorem dX5_remember_42 : decode cX5_remember 42 = .ok (.astore_n 2, 1) := by decide +kernel
theorem dX5_remember_43 : decode cX5_remember 43 = .ok (.aload_n 2, 1) := by decide +kernel
theorem dX5_remember_44 : decode cX5_remember 44 = .ok (.ifnull 23, 3) := by decide +kernel
theorem dX5_remember_47 : decode cX5_remember 47 = .ok (.aload_n 2, 1) := by decide +kernel
theorem dX5_remember_48 : decode cX5_remember 48 = .ok (.aload_n 1, 1) := by decide +kernel
theorem dX5_remember_49 : decode cX5_remember 49 = .ok (.invokevirtual 22, 3) := by decide +kernel
theorem dX5_remember_52 : decode cX5_remember 52 = .ok (.aload_n 0, 1) := by decide +kernel
theorem dX5_remember_53 : decode cX5_remember 53 = .ok (.bipush 12, 2) := by decide +kernel
theorem dX5_remember_55 : decode cX5_remember 55 = .ok (.aload_n 0, 1) := by decide +kernel
theorem dX5_remember_56 : decode cX5_remember 56 = .ok (.getfield 26, 3) := by decide +kernel
theorem dX5_remember_59 : decode cX5_remember 59 = .ok (.iconst 1, 1) := by decide +kernel
theorem dX5_remember_60 : decode cX5_remember 60 = .ok (.iadd, 1) := by decide +kernel
theorem dX5_remember_61 : decode cX5_remember 61 = .ok (.invokestatic 29, 3) := by decide +kernel
theorem dX5_remember_64 : decode cX5_remember 64 = .ok (.putfield 26, 3) := by decide +kernel
theorem dX5_remember_67 : decode cX5_remember 67 = .ok (.return_, 1) := by decide +kernel
theorem dX5_remember_0 : decode cX5_remember 0 = .ok (.aload_n 0, 1) := by decide +kernel
theorem dX5_remember_1 : decode cX5_remember 1 = .ok (.aload_n 0, 1) := by decide +kernel
theorem dX5_remember_2 : decode cX5_remember 2 = .ok (.getfield 18, 3) := by decide +kernel
theorem dX5_remember_5 : decode cX5_remember 5 = .ok (.iconst 1, 1) := by decide +kernel
theorem dX5_remember_6 : decode cX5_remember 6 = .ok (.iadd, 1) := by decide +kernel
theorem dX5_remember_7 : decode cX5_remember 7 = .ok (.bipush 12, 2) := by decide +kernel
theorem dX5_remember_9 : decode cX5_remember 9 = .ok (.irem, 1) := by decide +kernel
theorem dX5_remember_10 : decode cX5_remember 10 = .ok (.putfield 18, 3) := by decide +kernel
theorem dX5_bringBack_0 : decode cX5_bringBack 0 = .ok (.aload_n 0, 1) := by decide +kernel
theorem dX5_bringBack_1 : decode cX5_bringBack 1 = .ok (.getfield 18, 3) := by decide +kernel
theorem dX5_bringBack_4 : decode cX5_bringBack 4 = .ok (.ifCond .lt 24, 3) := by decide +kernel
theorem dX5_bringBack_7 : decode cX5_bringBack 7 = .ok (.aload_n 0, 1) := by decide +kernel
theorem dX5_bringBack_8 : decode cX5_bringBack 8 = .ok (.getfield 18, 3) := by decide +kernel
theorem dX5_bringBack_11 : decode cX5_bringBack 11 = .ok (.bipush 12, 2) := by decide +kernel
theorem dX5_bringBack_13 : decode cX5_bringBack 13 = .ok (.if_icmp .ge 15, 3) := by decide +kernel
theorem dX5_bringBack_16 : decode cX5_bringBack 16 = .ok (.aload_n 0, 1) := by decide +kernel
theorem dX5_bringBack_17 : decode cX5_bringBack 17 = .ok (.getfield 11, 3) := by decide +kernel
theorem dX5_bringBack_20 : decode cX5_bringBack 20 = .ok (.aload_n 0, 1) := by decide +kernel
theorem dX5_bringBack_21 : decode cX5_bringBack 21 = .ok (.getfield 18, 3) := by decide +kernel
theorem dX5_bringBack_24 : decode cX5_bringBack 24 = .ok (.aaload, 1) := by decide +kernel
theorem dX5_bringBack_25 : decode cX5_bringBack 25 = .ok (.goto 4, 3) := by decide +kernel
theorem dX5_bringBack_29 : decode cX5_bringBack 29 = .ok (.astore_n 2, 1) := by decide +kernel
theorem dX5_bringBack_30 : decode cX5_bringBack 30 = .ok (.aload_n 0, 1) := by decide +kernel
theorem dX5_bringBack_31 : decode cX5_bringBack 31 = .ok (.getfield 26, 3) := by decide +kernel
theorem dX5_bringBack_34 : decode cX5_bringBack 34 = .ok (.ifCond .le 7, 3) := by decide +kernel
theorem dX5_bringBack_37 : decode cX5_bringBack 37 = .ok (.aload_n 2, 1) := by decide +kernel
theorem dX5_bringBack_38 : decode cX5_bringBack 38 = .ok (.ifnonnull 5, 3) := by decide +kernel
theorem dX5_bringBack_43 : decode cX5_bringBack 43 = .ok (.aload_n 1, 1) := by decide +kernel
theorem dX5_bringBack_44 : decode cX5_bringBack 44 = .ok (.aload_n 2, 1) := by decide +kernel
theorem dX5_bringBack_45 : decode cX5_bringBack 45 = .ok (.invokevirtual 22, 3) := by decide +kernel
theorem dX5_bringBack_48 : decode cX5_bringBack 48 = .ok (.aload_n 0, 1) := by decide +kernel
theorem dX5_bringBack_49 : decode cX5_bringBack 49 = .ok (.aload_n 0, 1) := by decide +kernel
theorem dX5_bringBack_50 : decode cX5_bringBack 50 = .ok (.getfield 18, 3) := by decide +kernel
theorem dX5_bringBack_53 : decode cX5_bringBack 53 = .ok (.bipush 12, 2) := by decide +kernel
theorem dX5_bringBack_55 : decode cX5_bringBack 55 = .ok (.iadd, 1) := by decide +kernel
theorem dX5_bringBack_56 : decode cX5_bringBack 56 = .ok (.iconst 1, 1) := by decide +kernel
theorem dX5_bringBack_57 : decode cX5_bringBack 57 = .ok (.isub, 1) := by decide +kernel
theorem dX5_bringBack_58 : decode cX5_bringBack 58 = .ok (.bipush 12, 2) := by decide +kernel
theorem dX5_bringBack_60 : decode cX5_bringBack 60 = .ok (.irem, 1) := by decide +kernel
theorem dX5_bringBack_61 : decode cX5_bringBack 61 = .ok (.putfield 18, 3) := by decide +kernel
theorem dX5_bringBack_64 : decode cX5_bringBack 64 = .ok (.aload_n 0, 1) := by decide +kernel
theorem dX5_bringBack_65 : decode cX5_bringBack 65 = .ok (.dup, 1) := by decide +kernel
theorem dX5_bringBack_66 : decode cX5_bringBack 66 = .ok (.getfield 26, 3) := by decide +kernel
theorem dX5_bringBack_69 : decode cX5_bringBack 69 = .ok (.iconst 1, 1) := by decide +kernel
theorem dX5_bringBack_70 : decode cX5_bringBack 70 = .ok (.isub, 1) := by decide +kernel
theorem dX5_bringBack_71 : decode cX5_bringBack 71 = .ok (.putfield 26, 3) := by decide +kernel
theorem dX5_bringBack_74 : decode cX5_bringBack 74 = .ok (.iconst 1, 1) := by decide +kernel
theorem dX5_bringBack_75 : decode cX5_bringBack 75 = .ok (.ireturn, 1) := by decide +kernel
theorem dX5_bringBack_41 : decode cX5_bringBack 41 = .ok (.iconst 0, 1) := by decide +kernel
theorem dX5_bringBack_42 : decode cX5_bringBack 42 = .ok (.ireturn, 1) := by decide +kernel
theorem dX9_undo_0 : decode cX9_undo 0 = .ok (.aload_n 0, 1) := by decide +kernel
theorem dX9_undo_1 : decode cX9_undo 1 = .ok (.getfield 76, 3) := by decide +kernel
theorem dX9_undo_4 : decode cX9_undo 4 = .ok (.aload_n 0, 1) := by decide +kernel
theorem dX9_undo_5 : decode cX9_undo 5 = .ok (.getfield 19, 3) := by decide +kernel
theorem dX9_undo_8 : decode cX9_undo 8 = .ok (.invokevirtual 338, 3) := by decide +kernel
theorem dX9_undo_11 : decode cX9_undo 11 = .ok (.ireturn, 1) := by decide +kernel
theorem dX9_image_0 : decode cX9_image 0 = .ok (.aload_n 0, 1) := by decide +kernel
theorem dX9_image_1 : decode cX9_image 1 = .ok (.getfield 26, 3) := by decide +kernel
theorem dX9_image_4 : decode cX9_image 4 = .ok (.aload_n 0, 1) := by decide +kernel
theorem dX9_image_5 : decode cX9_image 5 = .ok (.getfield 19, 3) := by decide +kernel
theorem dX9_image_8 : decode cX9_image 8 = .ok (.invokevirtual 91, 3) := by decide +kernel
theorem dX9_image_11 : decode cX9_image 11 = .ok (.aload_n 0, 1) := by decide +kernel
theorem dX9_image_12 : decode cX9_image 12 = .ok (.getfield 43, 3) := by decide +kernel
theorem dX9_image_15 : decode cX9_image 15 = .ok (.aload_n 0, 1) := by decide +kernel
theorem dX9_image_16 : decode cX9_image 16 = .ok (.getfield 32, 3) := by decide +kernel
theorem dX9_image_19 : decode cX9_image 19 = .ok (.getfield 125, 3) := by decide +kernel
theorem dX9_image_22 : decode cX9_image 22 = .ok (.invokevirtual 128, 3) := by decide +kernel
theorem dX9_image_25 : decode cX9_image 25 = .ok (.aload_n 0, 1) := by decide +kernel
theorem dX9_image_26 : decode cX9_image 26 = .ok (.iconst 1, 1) := by decide +kernel
theorem dX9_image_27 : decode cX9_image 27 = .ok (.putfield 342, 3) := by decide +kernel
theorem dX9_image_30 : decode cX9_image 30 = .ok (.return_, 1) := by decide +kernel
theorem dX9_back_0 : decode cX9_back 0 = .ok (.aload_n 0, 1) := by decide +kernel
theorem dX9_back_1 : decode cX9_back 1 = .ok (.getfield 342, 3) := by decide +kernel
theorem dX9_back_4 : decode cX9_back 4 = .ok (.ifCond .ne 5, 3) := by decide +kernel
theorem dX9_back_7 : decode cX9_back 7 = .ok (.iconst 0, 1) := by decide +kernel
theorem dX9_back_8 : decode cX9_back 8 = .ok (.ireturn, 1) := by decide +kernel
theorem dX9_back_9 : decode cX9_back 9 = .ok (.aload_n 0, 1) := by decide +kernel
theorem dX9_back_10 : decode cX9_back 10 = .ok (.getfield 19, 3) := by decide +kernel
theorem dX9_back_13 : decode cX9_back 13 = .ok (.aload_n 0, 1) := by decide +kernel
theorem dX9_back_14 : decode cX9_back 14 = .ok (.getfield 26, 3) := by decide +kernel
theorem dX9_back_17 : decode cX9_back 17 = .ok (.invokevirtual 91, 3) := by decide +kernel
theorem dX9_back_20 : decode cX9_back 20 = .ok (.aload_n 0, 1) := by decide +kernel
theorem dX9_back_21 : decode cX9_back 21 = .ok (.getfield 32, 3) := by decide +kernel
theorem dX9_back_24 : decode cX9_back 24 = .ok (.getfield 125, 3) := by decide +kernel
theorem dX9_back_27 : decode cX9_back 27 = .ok (.aload_n 0, 1) := by decide +kernel
theorem dX9_back_28 : decode cX9_back 28 = .ok (.getfield 43, 3) := by decide +kernel
theorem dX9_back_31 : decode cX9_back 31 = .ok (.invokevirtual 128, 3) := by decide +kernel
theorem dX9_back_34 : decode cX9_back 34 = .ok (.aload_n 0, 1) := by decide +kernel
theorem dX9_back_35 : decode cX9_back 35 = .ok (.getfield 76, 3) := by decide +kernel
theorem dX9_back_38 : decode cX9_back 38 = .ok (.invokevirtual 118, 3) := by decide +kernel
theorem dX9_back_41 : decode cX9_back 41 = .ok (.iconst 1, 1) := by decide +kernel
theorem dX9_back_42 : decode cX9_back 42 = .ok (.ireturn, 1) := by decide +kernel
/-! remember, bringBack, undo, image, back of the class -/
theorem rem12 : ∀ m, m < 24 → nI m - nI m / nI 12 * nI 12 = nI (m % 12) := by decide
theorem min12 : ∀ v, v < 14 → imin (nI 12) (nI v) = nI (if v ≤ 12 then v else 12) := by decide
section Kmm
variable (G : Gx) (d : Nat)
theorem rem_0 (I : Hi) (s : Nat) (hs : s ≤ 12) (h1 : I 44 1 = nI s) (h2 : I 44 2 = nI 0) (P : Option Value → Hi → Prop) (kk : ∀ L, (∀ j, j < 9 → L 46 j = I 3 j) → (∀ j, j < 72 → L 48 j = I 5 j) → (∀ a, ¬ (46 ≤ a ∧ a ≤ 49) → L a = I a) → P none (zup L 44 1 (nI (if s + 1 ≤ 12 then s + 1 else 12)))) : Rn G GAM mX5_remember (kM G GAM (Rv P)) (d + 1) 0 13 [some (.ref 44), some (.ref 3), none] [] I := by
  refine Rn.aload_n dX5_remember_13 rfl rfl ?_
  refine Rn.getI dX5_remember_14 fd_X5_18_4 (by first | rfl | exact gC0 (by assumption) | exact gL0 (by assumption)) rfl ?_
  refine Rn.topI (nI 0) (by exact h2) ?_
  refine Rn.if_lt (tgt := 41) dX5_remember_17 (by decide) (fun h9 => absurd h9 (by decide)) (fun _ => ?_)
  refine Rn.aload_n dX5_remember_20 rfl rfl ?_
  refine Rn.getI dX5_remember_21 fd_X5_18_4 (by first | rfl | exact gC0 (by assumption) | exact gL0 (by assumption)) rfl ?_
  refine Rn.topI (nI 0) (by exact h2) ?_
  refine Rn.bipush (v := (nI 12)) dX5_remember_24 rfl ?_
  refine Rn.icmp_ge (tgt := 41) dX5_remember_26 (by decide) (fun h9 => absurd h9 (by decide)) (fun _ => ?_)
  refine Rn.aload_n dX5_remember_29 rfl rfl ?_
  refine Rn.getR dX5_remember_30 fd_X5_11_4 (by first | rfl | exact gC0 (by assumption) | exact gL0 (by assumption)) rfl ?_
  refine Rn.aload_n dX5_remember_33 rfl rfl ?_
  refine Rn.getI dX5_remember_34 fd_X5_18_4 (by first | rfl | exact gC0 (by assumption) | exact gL0 (by assumption)) rfl ?_
  refine Rn.topI (nI 0) (by exact h2) ?_
  refine Rn.aald (a := 45) (n := 12) (f := fM 12) (r := 46) dX5_remember_37 rfl (vp_in_nI (by decide) (by decide)) (by decide) ?_
  refine Rn.goto 42 dX5_remember_38 (by decide) ?_
  refine Rn.astore_n dX5_remember_42 rfl (by decide) ?_
  refine Rn.aload_n dX5_remember_43 rfl rfl ?_
  refine Rn.ifnull dX5_remember_44 ?_
  refine Rn.aload_n dX5_remember_47 rfl rfl ?_
  refine Rn.aload_n dX5_remember_48 rfl rfl ?_
  refine Rn.callV (As := [_]) dX5_remember_49 mv_X5_22 (by first | rfl | exact gC0 (by assumption) | exact gL0 (by assumption)) rfl rfl rfl (Nat.le_of_ble_eq_true rfl) (ct_cp3_46 G d I) (fun _ _ h => h) (fun v J h => ?_)
  obtain ⟨rfl, c1, c2, c3⟩ := h
  refine Rn.aload_n dX5_remember_52 rfl rfl ?_
  refine Rn.bipush (v := (nI 12)) dX5_remember_53 rfl ?_
  refine Rn.aload_n dX5_remember_55 rfl rfl ?_
  refine Rn.getI dX5_remember_56 fd_X5_26_4 (by first | rfl | exact gC0 (by assumption) | exact gL0 (by assumption)) rfl ?_
  refine Rn.topI (nI s) (by rw [c3 44 (by decide)]; exact h1) ?_
  refine Rn.iconst (v := (nI 1)) dX5_remember_59 rfl ?_
  refine Rn.iadd dX5_remember_60 ?_
  refine Rn.topI (nI (s + 1)) (by exact nI_1 s) ?_
  refine Rn.mmin dX5_remember_61 ms_X5_29 (Nat.le_of_ble_eq_true rfl) ?_
  refine Rn.topI (nI (if s + 1 ≤ 12 then s + 1 else 12)) (by exact min12 _ (by omega)) ?_
  refine Rn.putI dX5_remember_64 fp_X5_26_4 (by first | rfl | exact gC0 (by assumption) | exact gL0 (by assumption)) rfl ?_
  exact Rn.vret dX5_remember_67 rfl (kk _ c1 c2 c3)
theorem rem_1 (I : Hi) (s : Nat) (hs : s ≤ 12) (h1 : I 44 1 = nI s) (h2 : I 44 2 = nI 1) (P : Option Value → Hi → Prop) (kk : ∀ L, (∀ j, j < 9 → L 50 j = I 3 j) → (∀ j, j < 72 → L 52 j = I 5 j) → (∀ a, ¬ (50 ≤ a ∧ a ≤ 53) → L a = I a) → P none (zup L 44 1 (nI (if s + 1 ≤ 12 then s + 1 else 12)))) : Rn G GAM mX5_remember (kM G GAM (Rv P)) (d + 1) 0 13 [some (.ref 44), some (.ref 3), none] [] I := by
  refine Rn.aload_n dX5_remember_13 rfl rfl ?_
  refine Rn.getI dX5_remember_14 fd_X5_18_4 (by first | rfl | exact gC0 (by assumption) | exact gL0 (by assumption)) rfl ?_
  refine Rn.topI (nI 1) (by exact h2) ?_
  refine Rn.if_lt (tgt := 41) dX5_remember_17 (by decide) (fun h9 => absurd h9 (by decide)) (fun _ => ?_)
  refine Rn.aload_n dX5_remember_20 rfl rfl ?_
  refine Rn.getI dX5_remember_21 fd_X5_18_4 (by first | rfl | exact gC0 (by assumption) | exact gL0 (by assumption)) rfl ?_
  refine Rn.topI (nI 1) (by exact h2) ?_
  refine Rn.bipush (v := (nI 12)) dX5_remember_24 rfl ?_
  refine Rn.icmp_ge (tgt := 41) dX5_remember_26 (by decide) (fun h9 => absurd h9 (by decide)) (fun _ => ?_)
  refine Rn.aload_n dX5_remember_29 rfl rfl ?_
  refine Rn.getR dX5_remember_30 fd_X5_11_4 (by first | rfl | exact gC0 (by assumption) | exact gL0 (by assumption)) rfl ?_
  refine Rn.aload_n dX5_remember_33 rfl rfl ?_
  refine Rn.getI dX5_remember_34 fd_X5_18_4 (by first | rfl | exact gC0 (by assumption) | exact gL0 (by assumption)) rfl ?_
  refine Rn.topI (nI 1) (by exact h2) ?_
  refine Rn.aald (a := 45) (n := 12) (f := fM 12) (r := 50) dX5_remember_37 rfl (vp_in_nI (by decide) (by decide)) (by decide) ?_
  refine Rn.goto 42 dX5_remember_38 (by decide) ?_
  refine Rn.astore_n dX5_remember_42 rfl (by decide) ?_
  refine Rn.aload_n dX5_remember_43 rfl rfl ?_
  refine Rn.ifnull dX5_remember_44 ?_
  refine Rn.aload_n dX5_remember_47 rfl rfl ?_
  refine Rn.aload_n dX5_remember_48 rfl rfl ?_
  refine Rn.callV (As := [_]) dX5_remember_49 mv_X5_22 (by first | rfl | exact gC0 (by assumption) | exact gL0 (by assumption)) rfl rfl rfl (Nat.le_of_ble_eq_true rfl) (ct_cp3_50 G d I) (fun _ _ h => h) (fun v J h => ?_)
  obtain ⟨rfl, c1, c2, c3⟩ := h
  refine Rn.aload_n dX5_remember_52 rfl rfl ?_
  refine Rn.bipush (v := (nI 12)) dX5_remember_53 rfl ?_
  refine Rn.aload_n dX5_remember_55 rfl rfl ?_
  refine Rn.getI dX5_remember_56 fd_X5_26_4 (by first | rfl | exact gC0 (by assumption) | exact gL0 (by assumption)) rfl ?_
  refine Rn.topI (nI s) (by rw [c3 44 (by decide)]; exact h1) ?_
  refine Rn.iconst (v := (nI 1)) dX5_remember_59 rfl ?_
  refine Rn.iadd dX5_remember_60 ?_
  refine Rn.topI (nI (s + 1)) (by exact nI_1 s) ?_
  refine Rn.mmin dX5_remember_61 ms_X5_29 (Nat.le_of_ble_eq_true rfl) ?_
  refine Rn.topI (nI (if s + 1 ≤ 12 then s + 1 else 12)) (by exact min12 _ (by omega)) ?_
  refine Rn.putI dX5_remember_64 fp_X5_26_4 (by first | rfl | exact gC0 (by assumption) | exact gL0 (by assumption)) rfl ?_
  exact Rn.vret dX5_remember_67 rfl (kk _ c1 c2 c3)
theorem rem_2 (I : Hi) (s : Nat) (hs : s ≤ 12) (h1 : I 44 1 = nI s) (h2 : I 44 2 = nI 2) (P : Option Value → Hi → Prop) (kk : ∀ L, (∀ j, j < 9 → L 54 j = I 3 j) → (∀ j, j < 72 → L 56 j = I 5 j) → (∀ a, ¬ (54 ≤ a ∧ a ≤ 57) → L a = I a) → P none (zup L 44 1 (nI (if s + 1 ≤ 12 then s + 1 else 12)))) : Rn G GAM mX5_remember (kM G GAM (Rv P)) (d + 1) 0 13 [some (.ref 44), some (.ref 3), none] [] I := by
  refine Rn.aload_n dX5_remember_13 rfl rfl ?_
  refine Rn.getI dX5_remember_14 fd_X5_18_4 (by first | rfl | exact gC0 (by assumption) | exact gL0 (by assumption)) rfl ?_
  refine Rn.topI (nI 2) (by exact h2) ?_
  refine Rn.if_lt (tgt := 41) dX5_remember_17 (by decide) (fun h9 => absurd h9 (by decide)) (fun _ => ?_)
  refine Rn.aload_n dX5_remember_20 rfl rfl ?_
  refine Rn.getI dX5_remember_21 fd_X5_18_4 (by first | rfl | exact gC0 (by assumption) | exact gL0 (by assumption)) rfl ?_
  refine Rn.topI (nI 2) (by exact h2) ?_
  refine Rn.bipush (v := (nI 12)) dX5_remember_24 rfl ?_
  refine Rn.icmp_ge (tgt := 41) dX5_remember_26 (by decide) (fun h9 => absurd h9 (by decide)) (fun _ => ?_)
  refine Rn.aload_n dX5_remember_29 rfl rfl ?_
  refine Rn.getR dX5_remember_30 fd_X5_11_4 (by first | rfl | exact gC0 (by assumption) | exact gL0 (by assumption)) rfl ?_
  refine Rn.aload_n dX5_remember_33 rfl rfl ?_
  refine Rn.getI dX5_remember_34 fd_X5_18_4 (by first | rfl | exact gC0 (by assumption) | exact gL0 (by assumption)) rfl ?_
  refine Rn.topI (nI 2) (by exact h2) ?_
  refine Rn.aald (a := 45) (n := 12) (f := fM 12) (r := 54) dX5_remember_37 rfl (vp_in_nI (by decide) (by decide)) (by decide) ?_
  refine Rn.goto 42 dX5_remember_38 (by decide) ?_
  refine Rn.astore_n dX5_remember_42 rfl (by decide) ?_
  refine Rn.aload_n dX5_remember_43 rfl rfl ?_
  refine Rn.ifnull dX5_remember_44 ?_
  refine Rn.aload_n dX5_remember_47 rfl rfl ?_
  refine Rn.aload_n dX5_remember_48 rfl rfl ?_
  refine Rn.callV (As := [_]) dX5_remember_49 mv_X5_22 (by first | rfl | exact gC0 (by assumption) | exact gL0 (by assumption)) rfl rfl rfl (Nat.le_of_ble_eq_true rfl) (ct_cp3_54 G d I) (fun _ _ h => h) (fun v J h => ?_)
  obtain ⟨rfl, c1, c2, c3⟩ := h
  refine Rn.aload_n dX5_remember_52 rfl rfl ?_
  refine Rn.bipush (v := (nI 12)) dX5_remember_53 rfl ?_
  refine Rn.aload_n dX5_remember_55 rfl rfl ?_
  refine Rn.getI dX5_remember_56 fd_X5_26_4 (by first | rfl | exact gC0 (by assumption) | exact gL0 (by assumption)) rfl ?_
  refine Rn.topI (nI s) (by rw [c3 44 (by decide)]; exact h1) ?_
  refine Rn.iconst (v := (nI 1)) dX5_remember_59 rfl ?_
  refine Rn.iadd dX5_remember_60 ?_
  refine Rn.topI (nI (s + 1)) (by exact nI_1 s) ?_
  refine Rn.mmin dX5_remember_61 ms_X5_29 (Nat.le_of_ble_eq_true rfl) ?_
  refine Rn.topI (nI (if s + 1 ≤ 12 then s + 1 else 12)) (by exact min12 _ (by omega)) ?_
  refine Rn.putI dX5_remember_64 fp_X5_26_4 (by first | rfl | exact gC0 (by assumption) | exact gL0 (by assumption)) rfl ?_
  exact Rn.vret dX5_remember_67 rfl (kk _ c1 c2 c3)
theorem rem_3 (I : Hi) (s : Nat) (hs : s ≤ 12) (h1 : I 44 1 = nI s) (h2 : I 44 2 = nI 3) (P : Option Value → Hi → Prop) (kk : ∀ L, (∀ j, j < 9 → L 58 j = I 3 j) → (∀ j, j < 72 → L 60 j = I 5 j) → (∀ a, ¬ (58 ≤ a ∧ a ≤ 61) → L a = I a) → P none (zup L 44 1 (nI (if s + 1 ≤ 12 then s + 1 else 12)))) : Rn G GAM mX5_remember (kM G GAM (Rv P)) (d + 1) 0 13 [some (.ref 44), some (.ref 3), none] [] I := by
  refine Rn.aload_n dX5_remember_13 rfl rfl ?_
  refine Rn.getI dX5_remember_14 fd_X5_18_4 (by first | rfl | exact gC0 (by assumption) | exact gL0 (by assumption)) rfl ?_
  refine Rn.topI (nI 3) (by exact h2) ?_
  refine Rn.if_lt (tgt := 41) dX5_remember_17 (by decide) (fun h9 => absurd h9 (by decide)) (fun _ => ?_)
  refine Rn.aload_n dX5_remember_20 rfl rfl ?_
  refine Rn.getI dX5_remember_21 fd_X5_18_4 (by first | rfl | exact gC0 (by assumption) | exact gL0 (by assumption)) rfl ?_
  refine Rn.topI (nI 3) (by exact h2) ?_
  refine Rn.bipush (v := (nI 12)) dX5_remember_24 rfl ?_
  refine Rn.icmp_ge (tgt := 41) dX5_remember_26 (by decide) (fun h9 => absurd h9 (by decide)) (fun _ => ?_)
  refine Rn.aload_n dX5_remember_29 rfl rfl ?_
  refine Rn.getR dX5_remember_30 fd_X5_11_4 (by first | rfl | exact gC0 (by assumption) | exact gL0 (by assumption)) rfl ?_
  refine Rn.aload_n dX5_remember_33 rfl rfl ?_
  refine Rn.getI dX5_remember_34 fd_X5_18_4 (by first | rfl | exact gC0 (by assumption) | exact gL0 (by assumption)) rfl ?_
  refine Rn.topI (nI 3) (by exact h2) ?_
  refine Rn.aald (a := 45) (n := 12) (f := fM 12) (r := 58) dX5_remember_37 rfl (vp_in_nI (by decide) (by decide)) (by decide) ?_
  refine Rn.goto 42 dX5_remember_38 (by decide) ?_
  refine Rn.astore_n dX5_remember_42 rfl (by decide) ?_
  refine Rn.aload_n dX5_remember_43 rfl rfl ?_
  refine Rn.ifnull dX5_remember_44 ?_
  refine Rn.aload_n dX5_remember_47 rfl rfl ?_
  refine Rn.aload_n dX5_remember_48 rfl rfl ?_
  refine Rn.callV (As := [_]) dX5_remember_49 mv_X5_22 (by first | rfl | exact gC0 (by assumption) | exact gL0 (by assumption)) rfl rfl rfl (Nat.le_of_ble_eq_true rfl) (ct_cp3_58 G d I) (fun _ _ h => h) (fun v J h => ?_)
  obtain ⟨rfl, c1, c2, c3⟩ := h
  refine Rn.aload_n dX5_remember_52 rfl rfl ?_
  refine Rn.bipush (v := (nI 12)) dX5_remember_53 rfl ?_
  refine Rn.aload_n dX5_remember_55 rfl rfl ?_
  refine Rn.getI dX5_remember_56 fd_X5_26_4 (by first | rfl | exact gC0 (by assumption) | exact gL0 (by assumption)) rfl ?_
  refine Rn.topI (nI s) (by rw [c3 44 (by decide)]; exact h1) ?_
  refine Rn.iconst (v := (nI 1)) dX5_remember_59 rfl ?_
  refine Rn.iadd dX5_remember_60 ?_
  refine Rn.topI (nI (s + 1)) (by exact nI_1 s) ?_
  refine Rn.mmin dX5_remember_61 ms_X5_29 (Nat.le_of_ble_eq_true rfl) ?_
  refine Rn.topI (nI (if s + 1 ≤ 12 then s + 1 else 12)) (by exact min12 _ (by omega)) ?_
  refine Rn.putI dX5_remember_64 fp_X5_26_4 (by first | rfl | exact gC0 (by assumption) | exact gL0 (by assumption)) rfl ?_
  exact Rn.vret dX5_remember_67 rfl (kk _ c1 c2 c3)
theorem rem_4 (I : Hi) (s : Nat) (hs : s ≤ 12) (h1 : I 44 1 = nI s) (h2 : I 44 2 = nI 4) (P : Option Value → Hi → Prop) (kk : ∀ L, (∀ j, j < 9 → L 62 j = I 3 j) → (∀ j, j < 72 → L 64 j = I 5 j) → (∀ a, ¬ (62 ≤ a ∧ a ≤ 65) → L a = I a) → P none (zup L 44 1 (nI (if s + 1 ≤ 12 then s + 1 else 12)))) : Rn G GAM mX5_remember (kM G GAM (Rv P)) (d + 1) 0 13 [some (.ref 44), some (.ref 3), none] [] I := by
  refine Rn.aload_n dX5_remember_13 rfl rfl ?_
  refine Rn.getI dX5_remember_14 fd_X5_18_4 (by first | rfl | exact gC0 (by assumption) | exact gL0 (by assumption)) rfl ?_
  refine Rn.topI (nI 4) (by exact h2) ?_
  refine Rn.if_lt (tgt := 41) dX5_remember_17 (by decide) (fun h9 => absurd h9 (by decide)) (fun _ => ?_)
  refine Rn.aload_n dX5_remember_20 rfl rfl ?_
  refine Rn.getI dX5_remember_21 fd_X5_18_4 (by first | rfl | exact gC0 (by assumption) | exact gL0 (by assumption)) rfl ?_
  refine Rn.topI (nI 4) (by exact h2) ?_
  refine Rn.bipush (v := (nI 12)) dX5_remember_24 rfl ?_
  refine Rn.icmp_ge (tgt := 41) dX5_remember_26 (by decide) (fun h9 => absurd h9 (by decide)) (fun _ => ?_)
  refine Rn.aload_n dX5_remember_29 rfl rfl ?_
  refine Rn.getR dX5_remember_30 fd_X5_11_4 (by first | rfl | exact gC0 (by assumption) | exact gL0 (by assumption)) rfl ?_
  refine Rn.aload_n dX5_remember_33 rfl rfl ?_
  refine Rn.getI dX5_remember_34 fd_X5_18_4 (by first | rfl | exact gC0 (by assumption) | exact gL0 (by assumption)) rfl ?_
  refine Rn.topI (nI 4) (by exact h2) ?_
  refine Rn.aald (a := 45) (n := 12) (f := fM 12) (r := 62) dX5_remember_37 rfl (vp_in_nI (by decide) (by decide)) (by decide) ?_
  refine Rn.goto 42 dX5_remember_38 (by decide) ?_
  refine Rn.astore_n dX5_remember_42 rfl (by decide) ?_
  refine Rn.aload_n dX5_remember_43 rfl rfl ?_
  refine Rn.ifnull dX5_remember_44 ?_
  refine Rn.aload_n dX5_remember_47 rfl rfl ?_
  refine Rn.aload_n dX5_remember_48 rfl rfl ?_
  refine Rn.callV (As := [_]) dX5_remember_49 mv_X5_22 (by first | rfl | exact gC0 (by assumption) | exact gL0 (by assumption)) rfl rfl rfl (Nat.le_of_ble_eq_true rfl) (ct_cp3_62 G d I) (fun _ _ h => h) (fun v J h => ?_)
  obtain ⟨rfl, c1, c2, c3⟩ := h
  refine Rn.aload_n dX5_remember_52 rfl rfl ?_
  refine Rn.bipush (v := (nI 12)) dX5_remember_53 rfl ?_
  refine Rn.aload_n dX5_remember_55 rfl rfl ?_
  refine Rn.getI dX5_remember_56 fd_X5_26_4 (by first | rfl | exact gC0 (by assumption) | exact gL0 (by assumption)) rfl ?_
  refine Rn.topI (nI s) (by rw [c3 44 (by decide)]; exact h1) ?_
  refine Rn.iconst (v := (nI 1)) dX5_remember_59 rfl ?_
  refine Rn.iadd dX5_remember_60 ?_
  refine Rn.topI (nI (s + 1)) (by exact nI_1 s) ?_
  refine Rn.mmin dX5_remember_61 ms_X5_29 (Nat.le_of_ble_eq_true rfl) ?_
  refine Rn.topI (nI (if s + 1 ≤ 12 then s + 1 else 12)) (by exact min12 _ (by omega)) ?_
  refine Rn.putI dX5_remember_64 fp_X5_26_4 (by first | rfl | exact gC0 (by assumption) | exact gL0 (by assumption)) rfl ?_
  exact Rn.vret dX5_remember_67 rfl (kk _ c1 c2 c3)
theorem rem_5 (I : Hi) (s : Nat) (hs : s ≤ 12) (h1 : I 44 1 = nI s) (h2 : I 44 2 = nI 5) (P : Option Value → Hi → Prop) (kk : ∀ L, (∀ j, j < 9 → L 66 j = I 3 j) → (∀ j, j < 72 → L 68 j = I 5 j) → (∀ a, ¬ (66 ≤ a ∧ a ≤ 69) → L a = I a) → P none (zup L 44 1 (nI (if s + 1 ≤ 12 then s + 1 else 12)))) : Rn G GAM mX5_remember (kM G GAM (Rv P)) (d + 1) 0 13 [some (.ref 44), some (.ref 3), none] [] I := by
  refine Rn.aload_n dX5_remember_13 rfl rfl ?_
  refine Rn.getI dX5_remember_14 fd_X5_18_4 (by first | rfl | exact gC0 (by assumption) | exact gL0 (by assumption)) rfl ?_
  refine Rn.topI (nI 5) (by exact h2) ?_
  refine Rn.if_lt (tgt := 41) dX5_remember_17 (by decide) (fun h9 => absurd h9 (by decide)) (fun _ => ?_)
  refine Rn.aload_n dX5_remember_20 rfl rfl ?_
  refine Rn.getI dX5_remember_21 fd_X5_18_4 (by first | rfl | exact gC0 (by assumption) | exact gL0 (by assumption)) rfl ?_
  refine Rn.topI (nI 5) (by exact h2) ?_
  refine Rn.bipush (v := (nI 12)) dX5_remember_24 rfl ?_
  refine Rn.icmp_ge (tgt := 41) dX5_remember_26 (by decide) (fun h9 => absurd h9 (by decide)) (fun _ => ?_)
  refine Rn.aload_n dX5_remember_29 rfl rfl ?_
  refine Rn.getR dX5_remember_30 fd_X5_11_4 (by first | rfl | exact gC0 (by assumption) | exact gL0 (by assumption)) rfl ?_
  refine Rn.aload_n dX5_remember_33 rfl rfl ?_
  refine Rn.getI dX5_remember_34 fd_X5_18_4 (by first | rfl | exact gC0 (by assumption) | exact gL0 (by assumption)) rfl ?_
  refine Rn.topI (nI 5) (by exact h2) ?_
  refine Rn.aald (a := 45) (n := 12) (f := fM 12) (r := 66) dX5_remember_37 rfl (vp_in_nI (by decide) (by decide)) (by decide) ?_
  refine Rn.goto 42 dX5_remember_38 (by decide) ?_
  refine Rn.astore_n dX5_remember_42 rfl (by decide) ?_
  refine Rn.aload_n dX5_remember_43 rfl rfl ?_
  refine Rn.ifnull dX5_remember_44 ?_
  refine Rn.aload_n dX5_remember_47 rfl rfl ?_
  refine Rn.aload_n dX5_remember_48 rfl rfl ?_
  refine Rn.callV (As := [_]) dX5_remember_49 mv_X5_22 (by first | rfl | exact gC0 (by assumption) | exact gL0 (by assumption)) rfl rfl rfl (Nat.le_of_ble_eq_true rfl) (ct_cp3_66 G d I) (fun _ _ h => h) (fun v J h => ?_)
  obtain ⟨rfl, c1, c2, c3⟩ := h
  refine Rn.aload_n dX5_remember_52 rfl rfl ?_
  refine Rn.bipush (v := (nI 12)) dX5_remember_53 rfl ?_
  refine Rn.aload_n dX5_remember_55 rfl rfl ?_
  refine Rn.getI dX5_remember_56 fd_X5_26_4 (by first | rfl | exact gC0 (by assumption) | exact gL0 (by assumption)) rfl ?_
  refine Rn.topI (nI s) (by rw [c3 44 (by decide)]; exact h1) ?_
  refine Rn.iconst (v := (nI 1)) dX5_remember_59 rfl ?_
  refine Rn.iadd dX5_remember_60 ?_
  refine Rn.topI (nI (s + 1)) (by exact nI_1 s) ?_
  refine Rn.mmin dX5_remember_61 ms_X5_29 (Nat.le_of_ble_eq_true rfl) ?_
  refine Rn.topI (nI (if s + 1 ≤ 12 then s + 1 else 12)) (by exact min12 _ (by omega)) ?_
  refine Rn.putI dX5_remember_64 fp_X5_26_4 (by first | rfl | exact gC0 (by assumption) | exact gL0 (by assumption)) rfl ?_
  exact Rn.vret dX5_remember_67 rfl (kk _ c1 c2 c3)
theorem rem_6 (I : Hi) (s : Nat) (hs : s ≤ 12) (h1 : I 44 1 = nI s) (h2 : I 44 2 = nI 6) (P : Option Value → Hi → Prop) (kk : ∀ L, (∀ j, j < 9 → L 70 j = I 3 j) → (∀ j, j < 72 → L 72 j = I 5 j) → (∀ a, ¬ (70 ≤ a ∧ a ≤ 73) → L a = I a) → P none (zup L 44 1 (nI (if s + 1 ≤ 12 then s + 1 else 12)))) : Rn G GAM mX5_remember (kM G GAM (Rv P)) (d + 1) 0 13 [some (.ref 44), some (.ref 3), none] [] I := by
  refine Rn.aload_n dX5_remember_13 rfl rfl ?_
  refine Rn.getI dX5_remember_14 fd_X5_18_4 (by first | rfl | exact gC0 (by assumption) | exact gL0 (by assumption)) rfl ?_
  refine Rn.topI (nI 6) (by exact h2) ?_
  refine Rn.if_lt (tgt := 41) dX5_remember_17 (by decide) (fun h9 => absurd h9 (by decide)) (fun _ => ?_)
  refine Rn.aload_n dX5_remember_20 rfl rfl ?_
  refine Rn.getI dX5_remember_21 fd_X5_18_4 (by first | rfl | exact gC0 (by assumption) | exact gL0 (by assumption)) rfl ?_
  refine Rn.topI (nI 6) (by exact h2) ?_
  refine Rn.bipush (v := (nI 12)) dX5_remember_24 rfl ?_
  refine Rn.icmp_ge (tgt := 41) dX5_remember_26 (by decide) (fun h9 => absurd h9 (by decide)) (fun _ => ?_)
  refine Rn.aload_n dX5_remember_29 rfl rfl ?_
  refine Rn.getR dX5_remember_30 fd_X5_11_4 (by first | rfl | exact gC0 (by assumption) | exact gL0 (by assumption)) rfl ?_
  refine Rn.aload_n dX5_remember_33 rfl rfl ?_
  refine Rn.getI dX5_remember_34 fd_X5_18_4 (by first | rfl | exact gC0 (by assumption) | exact gL0 (by assumption)) rfl ?_
  refine Rn.topI (nI 6) (by exact h2) ?_
  refine Rn.aald (a := 45) (n := 12) (f := fM 12) (r := 70) dX5_remember_37 rfl (vp_in_nI (by decide) (by decide)) (by decide) ?_
  refine Rn.goto 42 dX5_remember_38 (by decide) ?_
  refine Rn.astore_n dX5_remember_42 rfl (by decide) ?_
  refine Rn.aload_n dX5_remember_43 rfl rfl ?_
  refine Rn.ifnull dX5_remember_44 ?_
  refine Rn.aload_n dX5_remember_47 rfl rfl ?_
  refine Rn.aload_n dX5_remember_48 rfl rfl ?_
  refine Rn.callV (As := [_]) dX5_remember_49 mv_X5_22 (by first | rfl | exact gC0 (by assumption) | exact gL0 (by assumption)) rfl rfl rfl (Nat.le_of_ble_eq_true rfl) (ct_cp3_70 G d I) (fun _ _ h => h) (fun v J h => ?_)
  obtain ⟨rfl, c1, c2, c3⟩ := h
  refine Rn.aload_n dX5_remember_52 rfl rfl ?_
  refine Rn.bipush (v := (nI 12)) dX5_remember_53 rfl ?_
  refine Rn.aload_n dX5_remember_55 rfl rfl ?_
  refine Rn.getI dX5_remember_56 fd_X5_26_4 (by first | rfl | exact gC0 (by assumption) | exact gL0 (by assumption)) rfl ?_
  refine Rn.topI (nI s) (by rw [c3 44 (by decide)]; exact h1) ?_
  refine Rn.iconst (v := (nI 1)) dX5_remember_59 rfl ?_
  refine Rn.iadd dX5_remember_60 ?_
  refine Rn.topI (nI (s + 1)) (by exact nI_1 s) ?_
  refine Rn.mmin dX5_remember_61 ms_X5_29 (Nat.le_of_ble_eq_true rfl) ?_
  refine Rn.topI (nI (if s + 1 ≤ 12 then s + 1 else 12)) (by exact min12 _ (by omega)) ?_
  refine Rn.putI dX5_remember_64 fp_X5_26_4 (by first | rfl | exact gC0 (by assumption) | exact gL0 (by assumption)) rfl ?_
  exact Rn.vret dX5_remember_67 rfl (kk _ c1 c2 c3)
theorem rem_7 (I : Hi) (s : Nat) (hs : s ≤ 12) (h1 : I 44 1 = nI s) (h2 : I 44 2 = nI 7) (P : Option Value → Hi → Prop) (kk : ∀ L, (∀ j, j < 9 → L 74 j = I 3 j) → (∀ j, j < 72 → L 76 j = I 5 j) → (∀ a, ¬ (74 ≤ a ∧ a ≤ 77) → L a = I a) → P none (zup L 44 1 (nI (if s + 1 ≤ 12 then s + 1 else 12)))) : Rn G GAM mX5_remember (kM G GAM (Rv P)) (d + 1) 0 13 [some (.ref 44), some (.ref 3), none] [] I := by
  refine Rn.aload_n dX5_remember_13 rfl rfl ?_
  refine Rn.getI dX5_remember_14 fd_X5_18_4 (by first | rfl | exact gC0 (by assumption) | exact gL0 (by assumption)) rfl ?_
  refine Rn.topI (nI 7) (by exact h2) ?_
  refine Rn.if_lt (tgt := 41) dX5_remember_17 (by decide) (fun h9 => absurd h9 (by decide)) (fun _ => ?_)
  refine Rn.aload_n dX5_remember_20 rfl rfl ?_
  refine Rn.getI dX5_remember_21 fd_X5_18_4 (by first | rfl | exact gC0 (by assumption) | exact gL0 (by assumption)) rfl ?_
  refine Rn.topI (nI 7) (by exact h2) ?_
  refine Rn.bipush (v := (nI 12)) dX5_remember_24 rfl ?_
  refine Rn.icmp_ge (tgt := 41) dX5_remember_26 (by decide) (fun h9 => absurd h9 (by decide)) (fun _ => ?_)
  refine Rn.aload_n dX5_remember_29 rfl rfl ?_
  refine Rn.getR dX5_remember_30 fd_X5_11_4 (by first | rfl | exact gC0 (by assumption) | exact gL0 (by assumption)) rfl ?_
  refine Rn.aload_n dX5_remember_33 rfl rfl ?_
  refine Rn.getI dX5_remember_34 fd_X5_18_4 (by first | rfl | exact gC0 (by assumption) | exact gL0 (by assumption)) rfl ?_
  refine Rn.topI (nI 7) (by exact h2) ?_
  refine Rn.aald (a := 45) (n := 12) (f := fM 12) (r := 74) dX5_remember_37 rfl (vp_in_nI (by decide) (by decide)) (by decide) ?_
  refine Rn.goto 42 dX5_remember_38 (by decide) ?_
  refine Rn.astore_n dX5_remember_42 rfl (by decide) ?_
  refine Rn.aload_n dX5_remember_43 rfl rfl ?_
  refine Rn.ifnull dX5_remember_44 ?_
  refine Rn.aload_n dX5_remember_47 rfl rfl ?_
  refine Rn.aload_n dX5_remember_48 rfl rfl ?_
  refine Rn.callV (As := [_]) dX5_remember_49 mv_X5_22 (by first | rfl | exact gC0 (by assumption) | exact gL0 (by assumption)) rfl rfl rfl (Nat.le_of_ble_eq_true rfl) (ct_cp3_74 G d I) (fun _ _ h => h) (fun v J h => ?_)
  obtain ⟨rfl, c1, c2, c3⟩ := h
  refine Rn.aload_n dX5_remember_52 rfl rfl ?_
  refine Rn.bipush (v := (nI 12)) dX5_remember_53 rfl ?_
  refine Rn.aload_n dX5_remember_55 rfl rfl ?_
  refine Rn.getI dX5_remember_56 fd_X5_26_4 (by first | rfl | exact gC0 (by assumption) | exact gL0 (by assumption)) rfl ?_
  refine Rn.topI (nI s) (by rw [c3 44 (by decide)]; exact h1) ?_
  refine Rn.iconst (v := (nI 1)) dX5_remember_59 rfl ?_
  refine Rn.iadd dX5_remember_60 ?_
  refine Rn.topI (nI (s + 1)) (by exact nI_1 s) ?_
  refine Rn.mmin dX5_remember_61 ms_X5_29 (Nat.le_of_ble_eq_true rfl) ?_
  refine Rn.topI (nI (if s + 1 ≤ 12 then s + 1 else 12)) (by exact min12 _ (by omega)) ?_
  refine Rn.putI dX5_remember_64 fp_X5_26_4 (by first | rfl | exact gC0 (by assumption) | exact gL0 (by assumption)) rfl ?_
  exact Rn.vret dX5_remember_67 rfl (kk _ c1 c2 c3)
theorem rem_8 (I : Hi) (s : Nat) (hs : s ≤ 12) (h1 : I 44 1 = nI s) (h2 : I 44 2 = nI 8) (P : Option Value → Hi → Prop) (kk : ∀ L, (∀ j, j < 9 → L 78 j = I 3 j) → (∀ j, j < 72 → L 80 j = I 5 j) → (∀ a, ¬ (78 ≤ a ∧ a ≤ 81) → L a = I a) → P none (zup L 44 1 (nI (if s + 1 ≤ 12 then s + 1 else 12)))) : Rn G GAM mX5_remember (kM G GAM (Rv P)) (d + 1) 0 13 [some (.ref 44), some (.ref 3), none] [] I := by
  refine Rn.aload_n dX5_remember_13 rfl rfl ?_
  refine Rn.getI dX5_remember_14 fd_X5_18_4 (by first | rfl | exact gC0 (by assumption) | exact gL0 (by assumption)) rfl ?_
  refine Rn.topI (nI 8) (by exact h2) ?_
  refine Rn.if_lt (tgt := 41) dX5_remember_17 (by decide) (fun h9 => absurd h9 (by decide)) (fun _ => ?_)
  refine Rn.aload_n dX5_remember_20 rfl rfl ?_
  refine Rn.getI dX5_remember_21 fd_X5_18_4 (by first | rfl | exact gC0 (by assumption) | exact gL0 (by assumption)) rfl ?_
  refine Rn.topI (nI 8) (by exact h2) ?_
  refine Rn.bipush (v := (nI 12)) dX5_remember_24 rfl ?_
  refine Rn.icmp_ge (tgt := 41) dX5_remember_26 (by decide) (fun h9 => absurd h9 (by decide)) (fun _ => ?_)
  refine Rn.aload_n dX5_remember_29 rfl rfl ?_
  refine Rn.getR dX5_remember_30 fd_X5_11_4 (by first | rfl | exact gC0 (by assumption) | exact gL0 (by assumption)) rfl ?_
  refine Rn.aload_n dX5_remember_33 rfl rfl ?_
  refine Rn.getI dX5_remember_34 fd_X5_18_4 (by first | rfl | exact gC0 (by assumption) | exact gL0 (by assumption)) rfl ?_
  refine Rn.topI (nI 8) (by exact h2) ?_
  refine Rn.aald (a := 45) (n := 12) (f := fM 12) (r := 78) dX5_remember_37 rfl (vp_in_nI (by decide) (by decide)) (by decide) ?_
  refine Rn.goto 42 dX5_remember_38 (by decide) ?_
  refine Rn.astore_n dX5_remember_42 rfl (by decide) ?_
  refine Rn.aload_n dX5_remember_43 rfl rfl ?_
  refine Rn.ifnull dX5_remember_44 ?_
  refine Rn.aload_n dX5_remember_47 rfl rfl ?_
  refine Rn.aload_n dX5_remember_48 rfl rfl ?_
  refine Rn.callV (As := [_]) dX5_remember_49 mv_X5_22 (by first | rfl | exact gC0 (by assumption) | exact gL0 (by assumption)) rfl rfl rfl (Nat.le_of_ble_eq_true rfl) (ct_cp3_78 G d I) (fun _ _ h => h) (fun v J h => ?_)
  obtain ⟨rfl, c1, c2, c3⟩ := h
  refine Rn.aload_n dX5_remember_52 rfl rfl ?_
  refine Rn.bipush (v := (nI 12)) dX5_remember_53 rfl ?_
  refine Rn.aload_n dX5_remember_55 rfl rfl ?_
  refine Rn.getI dX5_remember_56 fd_X5_26_4 (by first | rfl | exact gC0 (by assumption) | exact gL0 (by assumption)) rfl ?_
  refine Rn.topI (nI s) (by rw [c3 44 (by decide)]; exact h1) ?_
  refine Rn.iconst (v := (nI 1)) dX5_remember_59 rfl ?_
  refine Rn.iadd dX5_remember_60 ?_
  refine Rn.topI (nI (s + 1)) (by exact nI_1 s) ?_
  refine Rn.mmin dX5_remember_61 ms_X5_29 (Nat.le_of_ble_eq_true rfl) ?_
  refine Rn.topI (nI (if s + 1 ≤ 12 then s + 1 else 12)) (by exact min12 _ (by omega)) ?_
  refine Rn.putI dX5_remember_64 fp_X5_26_4 (by first | rfl | exact gC0 (by assumption) | exact gL0 (by assumption)) rfl ?_
  exact Rn.vret dX5_remember_67 rfl (kk _ c1 c2 c3)
theorem rem_9 (I : Hi) (s : Nat) (hs : s ≤ 12) (h1 : I 44 1 = nI s) (h2 : I 44 2 = nI 9) (P : Option Value → Hi → Prop) (kk : ∀ L, (∀ j, j < 9 → L 82 j = I 3 j) → (∀ j, j < 72 → L 84 j = I 5 j) → (∀ a, ¬ (82 ≤ a ∧ a ≤ 85) → L a = I a) → P none (zup L 44 1 (nI (if s + 1 ≤ 12 then s + 1 else 12)))) : Rn G GAM mX5_remember (kM G GAM (Rv P)) (d + 1) 0 13 [some (.ref 44), some (.ref 3), none] [] I := by
  refine Rn.aload_n dX5_remember_13 rfl rfl ?_
  refine Rn.getI dX5_remember_14 fd_X5_18_4 (by first | rfl | exact gC0 (by assumption) | exact gL0 (by assumption)) rfl ?_
  refine Rn.topI (nI 9) (by exact h2) ?_
  refine Rn.if_lt (tgt := 41) dX5_remember_17 (by decide) (fun h9 => absurd h9 (by decide)) (fun _ => ?_)
  refine Rn.aload_n dX5_remember_20 rfl rfl ?_
  refine Rn.getI dX5_remember_21 fd_X5_18_4 (by first | rfl | exact gC0 (by assumption) | exact gL0 (by assumption)) rfl ?_
  refine Rn.topI (nI 9) (by exact h2) ?_
  refine Rn.bipush (v := (nI 12)) dX5_remember_24 rfl ?_
  refine Rn.icmp_ge (tgt := 41) dX5_remember_26 (by decide) (fun h9 => absurd h9 (by decide)) (fun _ => ?_)
  refine Rn.aload_n dX5_remember_29 rfl rfl ?_
  refine Rn.getR dX5_remember_30 fd_X5_11_4 (by first | rfl | exact gC0 (by assumption) | exact gL0 (by assumption)) rfl ?_
  refine Rn.aload_n dX5_remember_33 rfl rfl ?_
  refine Rn.getI dX5_remember_34 fd_X5_18_4 (by first | rfl | exact gC0 (by assumption) | exact gL0 (by assumption)) rfl ?_
  refine Rn.topI (nI 9) (by exact h2) ?_
  refine Rn.aald (a := 45) (n := 12) (f := fM 12) (r := 82) dX5_remember_37 rfl (vp_in_nI (by decide) (by decide)) (by decide) ?_
  refine Rn.goto 42 dX5_remember_38 (by decide) ?_
  refine Rn.astore_n dX5_remember_42 rfl (by decide) ?_
  refine Rn.aload_n dX5_remember_43 rfl rfl ?_
  refine Rn.ifnull dX5_remember_44 ?_
  refine Rn.aload_n dX5_remember_47 rfl rfl ?_
  refine Rn.aload_n dX5_remember_48 rfl rfl ?_
  refine Rn.callV (As := [_]) dX5_remember_49 mv_X5_22 (by first | rfl | exact gC0 (by assumption) | exact gL0 (by assumption)) rfl rfl rfl (Nat.le_of_ble_eq_true rfl) (ct_cp3_82 G d I) (fun _ _ h => h) (fun v J h => ?_)
  obtain ⟨rfl, c1, c2, c3⟩ := h
  refine Rn.aload_n dX5_remember_52 rfl rfl ?_
  refine Rn.bipush (v := (nI 12)) dX5_remember_53 rfl ?_
  refine Rn.aload_n dX5_remember_55 rfl rfl ?_
  refine Rn.getI dX5_remember_56 fd_X5_26_4 (by first | rfl | exact gC0 (by assumption) | exact gL0 (by assumption)) rfl ?_
  refine Rn.topI (nI s) (by rw [c3 44 (by decide)]; exact h1) ?_
  refine Rn.iconst (v := (nI 1)) dX5_remember_59 rfl ?_
  refine Rn.iadd dX5_remember_60 ?_
  refine Rn.topI (nI (s + 1)) (by exact nI_1 s) ?_
  refine Rn.mmin dX5_remember_61 ms_X5_29 (Nat.le_of_ble_eq_true rfl) ?_
  refine Rn.topI (nI (if s + 1 ≤ 12 then s + 1 else 12)) (by exact min12 _ (by omega)) ?_
  refine Rn.putI dX5_remember_64 fp_X5_26_4 (by first | rfl | exact gC0 (by assumption) | exact gL0 (by assumption)) rfl ?_
  exact Rn.vret dX5_remember_67 rfl (kk _ c1 c2 c3)
theorem rem_10 (I : Hi) (s : Nat) (hs : s ≤ 12) (h1 : I 44 1 = nI s) (h2 : I 44 2 = nI 10) (P : Option Value → Hi → Prop) (kk : ∀ L, (∀ j, j < 9 → L 86 j = I 3 j) → (∀ j, j < 72 → L 88 j = I 5 j) → (∀ a, ¬ (86 ≤ a ∧ a ≤ 89) → L a = I a) → P none (zup L 44 1 (nI (if s + 1 ≤ 12 then s + 1 else 12)))) : Rn G GAM mX5_remember (kM G GAM (Rv P)) (d + 1) 0 13 [some (.ref 44), some (.ref 3), none] [] I := by
  refine Rn.aload_n dX5_remember_13 rfl rfl ?_
  refine Rn.getI dX5_remember_14 fd_X5_18_4 (by first | rfl | exact gC0 (by assumption) | exact gL0 (by assumption)) rfl ?_
  refine Rn.topI (nI 10) (by exact h2) ?_
  refine Rn.if_lt (tgt := 41) dX5_remember_17 (by decide) (fun h9 => absurd h9 (by decide)) (fun _ => ?_)
  refine Rn.aload_n dX5_remember_20 rfl rfl ?_
  refine Rn.getI dX5_remember_21 fd_X5_18_4 (by first | rfl | exact gC0 (by assumption) | exact gL0 (by assumption)) rfl ?_
  refine Rn.topI (nI 10) (by exact h2) ?_
  refine Rn.bipush (v := (nI 12)) dX5_remember_24 rfl ?_
  refine Rn.icmp_ge (tgt := 41) dX5_remember_26 (by decide) (fun h9 => absurd h9 (by decide)) (fun _ => ?_)
  refine Rn.aload_n dX5_remember_29 rfl rfl ?_
  refine Rn.getR dX5_remember_30 fd_X5_11_4 (by first | rfl | exact gC0 (by assumption) | exact gL0 (by assumption)) rfl ?_
  refine Rn.aload_n dX5_remember_33 rfl rfl ?_
  refine Rn.getI dX5_remember_34 fd_X5_18_4 (by first | rfl | exact gC0 (by assumption) | exact gL0 (by assumption)) rfl ?_
  refine Rn.topI (nI 10) (by exact h2) ?_
  refine Rn.aald (a := 45) (n := 12) (f := fM 12) (r := 86) dX5_remember_37 rfl (vp_in_nI (by decide) (by decide)) (by decide) ?_
  refine Rn.goto 42 dX5_remember_38 (by decide) ?_
  refine Rn.astore_n dX5_remember_42 rfl (by decide) ?_
  refine Rn.aload_n dX5_remember_43 rfl rfl ?_
  refine Rn.ifnull dX5_remember_44 ?_
  refine Rn.aload_n dX5_remember_47 rfl rfl ?_
  refine Rn.aload_n dX5_remember_48 rfl rfl ?_
  refine Rn.callV (As := [_]) dX5_remember_49 mv_X5_22 (by first | rfl | exact gC0 (by assumption) | exact gL0 (by assumption)) rfl rfl rfl (Nat.le_of_ble_eq_true rfl) (ct_cp3_86 G d I) (fun _ _ h => h) (fun v J h => ?_)
  obtain ⟨rfl, c1, c2, c3⟩ := h
  refine Rn.aload_n dX5_remember_52 rfl rfl ?_
  refine Rn.bipush (v := (nI 12)) dX5_remember_53 rfl ?_
  refine Rn.aload_n dX5_remember_55 rfl rfl ?_
  refine Rn.getI dX5_remember_56 fd_X5_26_4 (by first | rfl | exact gC0 (by assumption) | exact gL0 (by assumption)) rfl ?_
  refine Rn.topI (nI s) (by rw [c3 44 (by decide)]; exact h1) ?_
  refine Rn.iconst (v := (nI 1)) dX5_remember_59 rfl ?_
  refine Rn.iadd dX5_remember_60 ?_
  refine Rn.topI (nI (s + 1)) (by exact nI_1 s) ?_
  refine Rn.mmin dX5_remember_61 ms_X5_29 (Nat.le_of_ble_eq_true rfl) ?_
  refine Rn.topI (nI (if s + 1 ≤ 12 then s + 1 else 12)) (by exact min12 _ (by omega)) ?_
  refine Rn.putI dX5_remember_64 fp_X5_26_4 (by first | rfl | exact gC0 (by assumption) | exact gL0 (by assumption)) rfl ?_
  exact Rn.vret dX5_remember_67 rfl (kk _ c1 c2 c3)
theorem rem_11 (I : Hi) (s : Nat) (hs : s ≤ 12) (h1 : I 44 1 = nI s) (h2 : I 44 2 = nI 11) (P : Option Value → Hi → Prop) (kk : ∀ L, (∀ j, j < 9 → L 90 j = I 3 j) → (∀ j, j < 72 → L 92 j = I 5 j) → (∀ a, ¬ (90 ≤ a ∧ a ≤ 93) → L a = I a) → P none (zup L 44 1 (nI (if s + 1 ≤ 12 then s + 1 else 12)))) : Rn G GAM mX5_remember (kM G GAM (Rv P)) (d + 1) 0 13 [some (.ref 44), some (.ref 3), none] [] I := by
  refine Rn.aload_n dX5_remember_13 rfl rfl ?_
  refine Rn.getI dX5_remember_14 fd_X5_18_4 (by first | rfl | exact gC0 (by assumption) | exact gL0 (by assumption)) rfl ?_
  refine Rn.topI (nI 11) (by exact h2) ?_
  refine Rn.if_lt (tgt := 41) dX5_remember_17 (by decide) (fun h9 => absurd h9 (by decide)) (fun _ => ?_)
  refine Rn.aload_n dX5_remember_20 rfl rfl ?_
  refine Rn.getI dX5_remember_21 fd_X5_18_4 (by first | rfl | exact gC0 (by assumption) | exact gL0 (by assumption)) rfl ?_
  refine Rn.topI (nI 11) (by exact h2) ?_
  refine Rn.bipush (v := (nI 12)) dX5_remember_24 rfl ?_
  refine Rn.icmp_ge (tgt := 41) dX5_remember_26 (by decide) (fun h9 => absurd h9 (by decide)) (fun _ => ?_)
  refine Rn.aload_n dX5_remember_29 rfl rfl ?_
  refine Rn.getR dX5_remember_30 fd_X5_11_4 (by first | rfl | exact gC0 (by assumption) | exact gL0 (by assumption)) rfl ?_
  refine Rn.aload_n dX5_remember_33 rfl rfl ?_
  refine Rn.getI dX5_remember_34 fd_X5_18_4 (by first | rfl | exact gC0 (by assumption) | exact gL0 (by assumption)) rfl ?_
  refine Rn.topI (nI 11) (by exact h2) ?_
  refine Rn.aald (a := 45) (n := 12) (f := fM 12) (r := 90) dX5_remember_37 rfl (vp_in_nI (by decide) (by decide)) (by decide) ?_
  refine Rn.goto 42 dX5_remember_38 (by decide) ?_
  refine Rn.astore_n dX5_remember_42 rfl (by decide) ?_
  refine Rn.aload_n dX5_remember_43 rfl rfl ?_
  refine Rn.ifnull dX5_remember_44 ?_
  refine Rn.aload_n dX5_remember_47 rfl rfl ?_
  refine Rn.aload_n dX5_remember_48 rfl rfl ?_
  refine Rn.callV (As := [_]) dX5_remember_49 mv_X5_22 (by first | rfl | exact gC0 (by assumption) | exact gL0 (by assumption)) rfl rfl rfl (Nat.le_of_ble_eq_true rfl) (ct_cp3_90 G d I) (fun _ _ h => h) (fun v J h => ?_)
  obtain ⟨rfl, c1, c2, c3⟩ := h
  refine Rn.aload_n dX5_remember_52 rfl rfl ?_
  refine Rn.bipush (v := (nI 12)) dX5_remember_53 rfl ?_
  refine Rn.aload_n dX5_remember_55 rfl rfl ?_
  refine Rn.getI dX5_remember_56 fd_X5_26_4 (by first | rfl | exact gC0 (by assumption) | exact gL0 (by assumption)) rfl ?_
  refine Rn.topI (nI s) (by rw [c3 44 (by decide)]; exact h1) ?_
  refine Rn.iconst (v := (nI 1)) dX5_remember_59 rfl ?_
  refine Rn.iadd dX5_remember_60 ?_
  refine Rn.topI (nI (s + 1)) (by exact nI_1 s) ?_
  refine Rn.mmin dX5_remember_61 ms_X5_29 (Nat.le_of_ble_eq_true rfl) ?_
  refine Rn.topI (nI (if s + 1 ≤ 12 then s + 1 else 12)) (by exact min12 _ (by omega)) ?_
  refine Rn.putI dX5_remember_64 fp_X5_26_4 (by first | rfl | exact gC0 (by assumption) | exact gL0 (by assumption)) rfl ?_
  exact Rn.vret dX5_remember_67 rfl (kk _ c1 c2 c3)
theorem MC.rem {I L : Hi} {n s m : Nat} (hn : n < 12) (hs : s ≤ 12) (hm : m = (n + 1) % 12) (h44 : I 44 2 = nI m) (h : ∀ k, k < s → eqC I (46 + 4 * ((n + 12 - k) % 12))) (c1 : ∀ j, j < 9 → L (46 + 4 * m) j = I 3 j) (c2 : ∀ j, j < 72 → L (48 + 4 * m) j = I 5 j) (c3 : ∀ a, ¬ (46 + 4 * m ≤ a ∧ a ≤ 49 + 4 * m) → L a = I a) : MC (zup L 44 1 (nI (if s + 1 ≤ 12 then s + 1 else 12))) := by
  refine ⟨m, if s + 1 ≤ 12 then s + 1 else 12, by omega, by split <;> omega, by rw [zup_at, upd_ne _ _ (by decide), c3 44 (by omega)]; exact h44, by rw [zup_at, upd_at], fun k hk => ?_⟩
  have hk2 : k < s + 1 ∧ k < 12 := by split at hk <;> omega
  have e3 : (zup L 44 1 (nI (if s + 1 ≤ 12 then s + 1 else 12))) 3 = I 3 := by rw [zup_ne _ _ (by decide), c3 3 (by omega)]
  have e5 : (zup L 44 1 (nI (if s + 1 ≤ 12 then s + 1 else 12))) 5 = I 5 := by rw [zup_ne _ _ (by decide), c3 5 (by omega)]
  by_cases z : k = 0
  · subst z
    rw [show (m + 12 - 0) % 12 = m by omega]
    refine ⟨fun i hi => ?_, fun i hi => ?_⟩
    · rw [e3, zup_ne _ _ (by omega)]
      exact c1 i (by omega)
    · rw [e5, zup_ne _ _ (by omega), show 46 + 4 * m + 2 = 48 + 4 * m by omega]
      exact c2 (9 * i + 8) (by omega)
  · have e1 : (m + 12 - k) % 12 = (n + 12 - (k - 1)) % 12 := by omega
    rw [e1]
    have hh := h (k - 1) (by omega)
    have ne : (n + 12 - (k - 1)) % 12 ≠ m := by omega
    have lt : (n + 12 - (k - 1)) % 12 < 12 := by omega
    generalize (n + 12 - (k - 1)) % 12 = y at hh ne lt
    exact hh.of (by rw [zup_ne _ _ (by omega), c3 _ (by omega)]) (by rw [zup_ne _ _ (by omega), c3 _ (by omega)]) (fun i _ => by rw [e3]) (fun i _ => by rw [e5])
theorem ct_remem (I : Hi) (h : MC I) : Ct G GAM mX5_remember (d + 1) 0 [.ref 44, .ref 3] I (Rv (fun v J => v = none ∧ MC J ∧ ∀ a, a < 44 ∨ 94 ≤ a → J a = I a)) := by
  obtain ⟨n, s, hn, hs, h2, h1, hk⟩ := h
  refine Ct.mk [some (.ref 44), some (.ref 3), none] ?_
  refine Rn.aload_n dX5_remember_0 rfl rfl ?_
  refine Rn.aload_n dX5_remember_1 rfl rfl ?_
  refine Rn.getI dX5_remember_2 fd_X5_18_4 (by first | rfl | exact gC0 (by assumption) | exact gL0 (by assumption)) rfl ?_
  refine Rn.topI (nI n) (by exact h2) ?_
  refine Rn.iconst (v := (nI 1)) dX5_remember_5 rfl ?_
  refine Rn.iadd dX5_remember_6 ?_
  refine Rn.topI (nI (n + 1)) (by exact nI_1 n) ?_
  refine Rn.bipush (v := (nI 12)) dX5_remember_7 rfl ?_
  refine Rn.irem dX5_remember_9 (by decide) ?_
  refine Rn.topI (nI ((n + 1) % 12)) (by exact rem12 _ (by omega)) ?_
  refine Rn.putI dX5_remember_10 fp_X5_18_4 (by first | rfl | exact gC0 (by assumption) | exact gL0 (by assumption)) rfl ?_
  have hm : (n + 1) % 12 < 12 := by omega
  have hI : ∀ k, k < s → eqC (zup I 44 2 (nI ((n + 1) % 12))) (46 + 4 * ((n + 12 - k) % 12)) := fun k q => (hk k q).of (by rw [zup_ne _ _ (by omega)]) (by rw [zup_ne _ _ (by omega)]) (fun i _ => by rw [zup_ne _ _ (by decide)]) (fun i _ => by rw [zup_ne _ _ (by decide)])
  have e1 : (zup I 44 2 (nI ((n + 1) % 12))) 44 1 = nI s := by rw [zup_at, upd_ne _ _ (by decide)]; exact h1
  have e2 : (zup I 44 2 (nI ((n + 1) % 12))) 44 2 = nI ((n + 1) % 12) := by rw [zup_at, upd_at]
  have fr : ∀ a, a < 44 ∨ 94 ≤ a → (zup I 44 2 (nI ((n + 1) % 12))) a = I a := fun a ha => by rw [zup_ne _ _ (by omega)]
  generalize zup I 44 2 (nI ((n + 1) % 12)) = H at hI e1 e2 fr
  obtain ⟨m, em⟩ : ∃ m, m = (n + 1) % 12 := ⟨_, rfl⟩
  rw [← em] at hm e2
  have fin : ∀ L, (∀ j, j < 9 → L (46 + 4 * m) j = H 3 j) → (∀ j, j < 72 → L (48 + 4 * m) j = H 5 j) → (∀ a, ¬ (46 + 4 * m ≤ a ∧ a ≤ 49 + 4 * m) → L a = H a) → (none : Option Value) = none ∧ MC (zup L 44 1 (nI (if s + 1 ≤ 12 then s + 1 else 12))) ∧ ∀ a, a < 44 ∨ 94 ≤ a → (zup L 44 1 (nI (if s + 1 ≤ 12 then s + 1 else 12))) a = I a := fun L c1 c2 c3 => ⟨rfl, MC.rem hn hs em e2 hI c1 c2 c3, fun a ha => by rw [zup_ne _ _ (by omega), c3 a (by omega)]; exact fr a ha⟩
  rcases (show m = 0 ∨ m = 1 ∨ m = 2 ∨ m = 3 ∨ m = 4 ∨ m = 5 ∨ m = 6 ∨ m = 7 ∨ m = 8 ∨ m = 9 ∨ m = 10 ∨ m = 11 by omega) with rfl | rfl | rfl | rfl | rfl | rfl | rfl | rfl | rfl | rfl | rfl | rfl
  · exact rem_0 G d H s hs e1 e2 _ fin
  · exact rem_1 G d H s hs e1 e2 _ fin
  · exact rem_2 G d H s hs e1 e2 _ fin
  · exact rem_3 G d H s hs e1 e2 _ fin
  · exact rem_4 G d H s hs e1 e2 _ fin
  · exact rem_5 G d H s hs e1 e2 _ fin
  · exact rem_6 G d H s hs e1 e2 _ fin
  · exact rem_7 G d H s hs e1 e2 _ fin
  · exact rem_8 G d H s hs e1 e2 _ fin
  · exact rem_9 G d H s hs e1 e2 _ fin
  · exact rem_10 G d H s hs e1 e2 _ fin
  · exact rem_11 G d H s hs e1 e2 _ fin
theorem bri_0 (I : Hi) (s : Nat) (hs : s < 12) (h1 : I 44 1 = nI (s + 1)) (h2 : I 44 2 = nI 0) (P : Option Value → Hi → Prop) (kk : ∀ L, (∀ j, j < 9 → L 3 j = I 46 j) → (∀ j, j < 72 → L 5 j = I 48 j) → (∀ a, ¬ (3 ≤ a ∧ a ≤ 6) → L a = I a) → P (some (.int (nI 1))) (zup (zup L 44 2 (nI 11)) 44 1 (nI s))) : Ct G GAM mX5_bringBack (d + 1) 0 [.ref 44, .ref 3] I (Rv P) := by
  refine Ct.mk [some (.ref 44), some (.ref 3), none] ?_
  refine Rn.aload_n dX5_bringBack_0 rfl rfl ?_
  refine Rn.getI dX5_bringBack_1 fd_X5_18_4 (by first | rfl | exact gC0 (by assumption) | exact gL0 (by assumption)) rfl ?_
  refine Rn.topI (nI 0) (by exact h2) ?_
  refine Rn.if_lt (tgt := 28) dX5_bringBack_4 (by decide) (fun h9 => absurd h9 (by decide)) (fun _ => ?_)
  refine Rn.aload_n dX5_bringBack_7 rfl rfl ?_
  refine Rn.getI dX5_bringBack_8 fd_X5_18_4 (by first | rfl | exact gC0 (by assumption) | exact gL0 (by assumption)) rfl ?_
  refine Rn.topI (nI 0) (by exact h2) ?_
  refine Rn.bipush (v := (nI 12)) dX5_bringBack_11 rfl ?_
  refine Rn.icmp_ge (tgt := 28) dX5_bringBack_13 (by decide) (fun h9 => absurd h9 (by decide)) (fun _ => ?_)
  refine Rn.aload_n dX5_bringBack_16 rfl rfl ?_
  refine Rn.getR dX5_bringBack_17 fd_X5_11_4 (by first | rfl | exact gC0 (by assumption) | exact gL0 (by assumption)) rfl ?_
  refine Rn.aload_n dX5_bringBack_20 rfl rfl ?_
  refine Rn.getI dX5_bringBack_21 fd_X5_18_4 (by first | rfl | exact gC0 (by assumption) | exact gL0 (by assumption)) rfl ?_
  refine Rn.topI (nI 0) (by exact h2) ?_
  refine Rn.aald (a := 45) (n := 12) (f := fM 12) (r := 46) dX5_bringBack_24 rfl (vp_in_nI (by decide) (by decide)) (by decide) ?_
  refine Rn.goto 29 dX5_bringBack_25 (by decide) ?_
  refine Rn.astore_n dX5_bringBack_29 rfl (by decide) ?_
  refine Rn.aload_n dX5_bringBack_30 rfl rfl ?_
  refine Rn.getI dX5_bringBack_31 fd_X5_26_4 (by first | rfl | exact gC0 (by assumption) | exact gL0 (by assumption)) rfl ?_
  refine Rn.topI (nI (s + 1)) (by exact h1) ?_
  refine Rn.if_leN dX5_bringBack_34 41 (fun h9 => by exfalso; omega) (fun _ => ?_)
  refine Rn.aload_n dX5_bringBack_37 rfl rfl ?_
  refine Rn.ifnonnull 43 dX5_bringBack_38 (by decide) ?_
  refine Rn.aload_n dX5_bringBack_43 rfl rfl ?_
  refine Rn.aload_n dX5_bringBack_44 rfl rfl ?_
  refine Rn.callV (As := [_]) dX5_bringBack_45 mv_X5_22 (by first | rfl | exact gC0 (by assumption) | exact gL0 (by assumption)) rfl rfl rfl (Nat.le_of_ble_eq_true rfl) (ct_cp46_3 G d I) (fun _ _ h => h) (fun v J h => ?_)
  obtain ⟨rfl, c1, c2, c3⟩ := h
  refine Rn.aload_n dX5_bringBack_48 rfl rfl ?_
  refine Rn.aload_n dX5_bringBack_49 rfl rfl ?_
  refine Rn.getI dX5_bringBack_50 fd_X5_18_4 (by first | rfl | exact gC0 (by assumption) | exact gL0 (by assumption)) rfl ?_
  refine Rn.topI (nI 0) (by rw [c3 44 (by decide)]; exact h2) ?_
  refine Rn.bipush (v := (nI 12)) dX5_bringBack_53 rfl ?_
  refine Rn.iadd dX5_bringBack_55 ?_
  refine Rn.iconst (v := (nI 1)) dX5_bringBack_56 rfl ?_
  refine Rn.isub dX5_bringBack_57 ?_
  refine Rn.bipush (v := (nI 12)) dX5_bringBack_58 rfl ?_
  refine Rn.irem dX5_bringBack_60 (by decide) ?_
  refine Rn.topI (nI 11) (by decide) ?_
  refine Rn.putI dX5_bringBack_61 fp_X5_18_4 (by first | rfl | exact gC0 (by assumption) | exact gL0 (by assumption)) rfl ?_
  refine Rn.aload_n dX5_bringBack_64 rfl rfl ?_
  refine Rn.dup dX5_bringBack_65 rfl ?_
  refine Rn.getI dX5_bringBack_66 fd_X5_26_4 (by first | rfl | exact gC0 (by assumption) | exact gL0 (by assumption)) rfl ?_
  refine Rn.topI (nI (s + 1)) (by rw [zup_at, upd_ne _ _ (by decide), c3 44 (by decide)]; exact h1) ?_
  refine Rn.iconst (v := (nI 1)) dX5_bringBack_69 rfl ?_
  refine Rn.isub dX5_bringBack_70 ?_
  refine Rn.topI (nI s) (by rw [← nI_1]; exact Int32.add_sub_cancel _ _) ?_
  refine Rn.putI dX5_bringBack_71 fp_X5_26_4 (by first | rfl | exact gC0 (by assumption) | exact gL0 (by assumption)) rfl ?_
  refine Rn.iconst (v := (nI 1)) dX5_bringBack_74 rfl ?_
  exact Rn.zret dX5_bringBack_75 rfl rfl (kk _ c1 c2 c3)
theorem bri_1 (I : Hi) (s : Nat) (hs : s < 12) (h1 : I 44 1 = nI (s + 1)) (h2 : I 44 2 = nI 1) (P : Option Value → Hi → Prop) (kk : ∀ L, (∀ j, j < 9 → L 3 j = I 50 j) → (∀ j, j < 72 → L 5 j = I 52 j) → (∀ a, ¬ (3 ≤ a ∧ a ≤ 6) → L a = I a) → P (some (.int (nI 1))) (zup (zup L 44 2 (nI 0)) 44 1 (nI s))) : Ct G GAM mX5_bringBack (d + 1) 0 [.ref 44, .ref 3] I (Rv P) := by
  refine Ct.mk [some (.ref 44), some (.ref 3), none] ?_
  refine Rn.aload_n dX5_bringBack_0 rfl rfl ?_
  refine Rn.getI dX5_bringBack_1 fd_X5_18_4 (by first | rfl | exact gC0 (by assumption) | exact gL0 (by assumption)) rfl ?_
  refine Rn.topI (nI 1) (by exact h2) ?_
  refine Rn.if_lt (tgt := 28) dX5_bringBack_4 (by decide) (fun h9 => absurd h9 (by decide)) (fun _ => ?_)
  refine Rn.aload_n dX5_bringBack_7 rfl rfl ?_
  refine Rn.getI dX5_bringBack_8 fd_X5_18_4 (by first | rfl | exact gC0 (by assumption) | exact gL0 (by assumption)) rfl ?_
  refine Rn.topI (nI 1) (by exact h2) ?_
  refine Rn.bipush (v := (nI 12)) dX5_bringBack_11 rfl ?_
  refine Rn.icmp_ge (tgt := 28) dX5_bringBack_13 (by decide) (fun h9 => absurd h9 (by decide)) (fun _ => ?_)
  refine Rn.aload_n dX5_bringBack_16 rfl rfl ?_
  refine Rn.getR dX5_bringBack_17 fd_X5_11_4 (by first | rfl | exact gC0 (by assumption) | exact gL0 (by assumption)) rfl ?_
  refine Rn.aload_n dX5_bringBack_20 rfl rfl ?_
  refine Rn.getI dX5_bringBack_21 fd_X5_18_4 (by first | rfl | exact gC0 (by assumption) | exact gL0 (by assumption)) rfl ?_
  refine Rn.topI (nI 1) (by exact h2) ?_
  refine Rn.aald (a := 45) (n := 12) (f := fM 12) (r := 50) dX5_bringBack_24 rfl (vp_in_nI (by decide) (by decide)) (by decide) ?_
  refine Rn.goto 29 dX5_bringBack_25 (by decide) ?_
  refine Rn.astore_n dX5_bringBack_29 rfl (by decide) ?_
  refine Rn.aload_n dX5_bringBack_30 rfl rfl ?_
  refine Rn.getI dX5_bringBack_31 fd_X5_26_4 (by first | rfl | exact gC0 (by assumption) | exact gL0 (by assumption)) rfl ?_
  refine Rn.topI (nI (s + 1)) (by exact h1) ?_
  refine Rn.if_leN dX5_bringBack_34 41 (fun h9 => by exfalso; omega) (fun _ => ?_)
  refine Rn.aload_n dX5_bringBack_37 rfl rfl ?_
  refine Rn.ifnonnull 43 dX5_bringBack_38 (by decide) ?_
  refine Rn.aload_n dX5_bringBack_43 rfl rfl ?_
  refine Rn.aload_n dX5_bringBack_44 rfl rfl ?_
  refine Rn.callV (As := [_]) dX5_bringBack_45 mv_X5_22 (by first | rfl | exact gC0 (by assumption) | exact gL0 (by assumption)) rfl rfl rfl (Nat.le_of_ble_eq_true rfl) (ct_cp50_3 G d I) (fun _ _ h => h) (fun v J h => ?_)
  obtain ⟨rfl, c1, c2, c3⟩ := h
  refine Rn.aload_n dX5_bringBack_48 rfl rfl ?_
  refine Rn.aload_n dX5_bringBack_49 rfl rfl ?_
  refine Rn.getI dX5_bringBack_50 fd_X5_18_4 (by first | rfl | exact gC0 (by assumption) | exact gL0 (by assumption)) rfl ?_
  refine Rn.topI (nI 1) (by rw [c3 44 (by decide)]; exact h2) ?_
  refine Rn.bipush (v := (nI 12)) dX5_bringBack_53 rfl ?_
  refine Rn.iadd dX5_bringBack_55 ?_
  refine Rn.iconst (v := (nI 1)) dX5_bringBack_56 rfl ?_
  refine Rn.isub dX5_bringBack_57 ?_
  refine Rn.bipush (v := (nI 12)) dX5_bringBack_58 rfl ?_
  refine Rn.irem dX5_bringBack_60 (by decide) ?_
  refine Rn.topI (nI 0) (by decide) ?_
  refine Rn.putI dX5_bringBack_61 fp_X5_18_4 (by first | rfl | exact gC0 (by assumption) | exact gL0 (by assumption)) rfl ?_
  refine Rn.aload_n dX5_bringBack_64 rfl rfl ?_
  refine Rn.dup dX5_bringBack_65 rfl ?_
  refine Rn.getI dX5_bringBack_66 fd_X5_26_4 (by first | rfl | exact gC0 (by assumption) | exact gL0 (by assumption)) rfl ?_
  refine Rn.topI (nI (s + 1)) (by rw [zup_at, upd_ne _ _ (by decide), c3 44 (by decide)]; exact h1) ?_
  refine Rn.iconst (v := (nI 1)) dX5_bringBack_69 rfl ?_
  refine Rn.isub dX5_bringBack_70 ?_
  refine Rn.topI (nI s) (by rw [← nI_1]; exact Int32.add_sub_cancel _ _) ?_
  refine Rn.putI dX5_bringBack_71 fp_X5_26_4 (by first | rfl | exact gC0 (by assumption) | exact gL0 (by assumption)) rfl ?_
  refine Rn.iconst (v := (nI 1)) dX5_bringBack_74 rfl ?_
  exact Rn.zret dX5_bringBack_75 rfl rfl (kk _ c1 c2 c3)
theorem bri_2 (I : Hi) (s : Nat) (hs : s < 12) (h1 : I 44 1 = nI (s + 1)) (h2 : I 44 2 = nI 2) (P : Option Value → Hi → Prop) (kk : ∀ L, (∀ j, j < 9 → L 3 j = I 54 j) → (∀ j, j < 72 → L 5 j = I 56 j) → (∀ a, ¬ (3 ≤ a ∧ a ≤ 6) → L a = I a) → P (some (.int (nI 1))) (zup (zup L 44 2 (nI 1)) 44 1 (nI s))) : Ct G GAM mX5_bringBack (d + 1) 0 [.ref 44, .ref 3] I (Rv P) := by
  refine Ct.mk [some (.ref 44), some (.ref 3), none] ?_
  refine Rn.aload_n dX5_bringBack_0 rfl rfl ?_
  refine Rn.getI dX5_bringBack_1 fd_X5_18_4 (by first | rfl | exact gC0 (by assumption) | exact gL0 (by assumption)) rfl ?_
  refine Rn.topI (nI 2) (by exact h2) ?_
  refine Rn.if_lt (tgt := 28) dX5_bringBack_4 (by decide) (fun h9 => absurd h9 (by decide)) (fun _ => ?_)
  refine Rn.aload_n dX5_bringBack_7 rfl rfl ?_
  refine Rn.getI dX5_bringBack_8 fd_X5_18_4 (by first | rfl | exact gC0 (by assumption) | exact gL0 (by assumption)) rfl ?_
  refine Rn.topI (nI 2) (by exact h2) ?_
  refine Rn.bipush (v := (nI 12)) dX5_bringBack_11 rfl ?_
  refine Rn.icmp_ge (tgt := 28) dX5_bringBack_13 (by decide) (fun h9 => absurd h9 (by decide)) (fun _ => ?_)
  refine Rn.aload_n dX5_bringBack_16 rfl rfl ?_
  refine Rn.getR dX5_bringBack_17 fd_X5_11_4 (by first | rfl | exact gC0 (by assumption) | exact gL0 (by assumption)) rfl ?_
  refine Rn.aload_n dX5_bringBack_20 rfl rfl ?_
  refine Rn.getI dX5_bringBack_21 fd_X5_18_4 (by first | rfl | exact gC0 (by assumption) | exact gL0 (by assumption)) rfl ?_
  refine Rn.topI (nI 2) (by exact h2) ?_
  refine Rn.aald (a := 45) (n := 12) (f := fM 12) (r := 54) dX5_bringBack_24 rfl (vp_in_nI (by decide) (by decide)) (by decide) ?_
  refine Rn.goto 29 dX5_bringBack_25 (by decide) ?_
  refine Rn.astore_n dX5_bringBack_29 rfl (by decide) ?_
  refine Rn.aload_n dX5_bringBack_30 rfl rfl ?_
  refine Rn.getI dX5_bringBack_31 fd_X5_26_4 (by first | rfl | exact gC0 (by assumption) | exact gL0 (by assumption)) rfl ?_
  refine Rn.topI (nI (s + 1)) (by exact h1) ?_
  refine Rn.if_leN dX5_bringBack_34 41 (fun h9 => by exfalso; omega) (fun _ => ?_)
  refine Rn.aload_n dX5_bringBack_37 rfl rfl ?_
  refine Rn.ifnonnull 43 dX5_bringBack_38 (by decide) ?_
  refine Rn.aload_n dX5_bringBack_43 rfl rfl ?_
  refine Rn.aload_n dX5_bringBack_44 rfl rfl ?_
  refine Rn.callV (As := [_]) dX5_bringBack_45 mv_X5_22 (by first | rfl | exact gC0 (by assumption) | exact gL0 (by assumption)) rfl rfl rfl (Nat.le_of_ble_eq_true rfl) (ct_cp54_3 G d I) (fun _ _ h => h) (fun v J h => ?_)
  obtain ⟨rfl, c1, c2, c3⟩ := h
  refine Rn.aload_n dX5_bringBack_48 rfl rfl ?_
  refine Rn.aload_n dX5_bringBack_49 rfl rfl ?_
  refine Rn.getI dX5_bringBack_50 fd_X5_18_4 (by first | rfl | exact gC0 (by assumption) | exact gL0 (by assumption)) rfl ?_
  refine Rn.topI (nI 2) (by rw [c3 44 (by decide)]; exact h2) ?_
  refine Rn.bipush (v := (nI 12)) dX5_bringBack_53 rfl ?_
  refine Rn.iadd dX5_bringBack_55 ?_
  refine Rn.iconst (v := (nI 1)) dX5_bringBack_56 rfl ?_
  refine Rn.isub dX5_bringBack_57 ?_
  refine Rn.bipush (v := (nI 12)) dX5_bringBack_58 rfl ?_
  refine Rn.irem dX5_bringBack_60 (by decide) ?_
  refine Rn.topI (nI 1) (by decide) ?_
  refine Rn.putI dX5_bringBack_61 fp_X5_18_4 (by first | rfl | exact gC0 (by assumption) | exact gL0 (by assumption)) rfl ?_
  refine Rn.aload_n dX5_bringBack_64 rfl rfl ?_
  refine Rn.dup dX5_bringBack_65 rfl ?_
  refine Rn.getI dX5_bringBack_66 fd_X5_26_4 (by first | rfl | exact gC0 (by assumption) | exact gL0 (by assumption)) rfl ?_
  refine Rn.topI (nI (s + 1)) (by rw [zup_at, upd_ne _ _ (by decide), c3 44 (by decide)]; exact h1) ?_
  refine Rn.iconst (v := (nI 1)) dX5_bringBack_69 rfl ?_
  refine Rn.isub dX5_bringBack_70 ?_
  refine Rn.topI (nI s) (by rw [← nI_1]; exact Int32.add_sub_cancel _ _) ?_
  refine Rn.putI dX5_bringBack_71 fp_X5_26_4 (by first | rfl | exact gC0 (by assumption) | exact gL0 (by assumption)) rfl ?_
  refine Rn.iconst (v := (nI 1)) dX5_bringBack_74 rfl ?_
  exact Rn.zret dX5_bringBack_75 rfl rfl (kk _ c1 c2 c3)
theorem bri_3 (I : Hi) (s : Nat) (hs : s < 12) (h1 : I 44 1 = nI (s + 1)) (h2 : I 44 2 = nI 3) (P : Option Value → Hi → Prop) (kk : ∀ L, (∀ j, j < 9 → L 3 j = I 58 j) → (∀ j, j < 72 → L 5 j = I 60 j) → (∀ a, ¬ (3 ≤ a ∧ a ≤ 6) → L a = I a) → P (some (.int (nI 1))) (zup (zup L 44 2 (nI 2)) 44 1 (nI s))) : Ct G GAM mX5_bringBack (d + 1) 0 [.ref 44, .ref 3] I (Rv P) := by
  refine Ct.mk [some (.ref 44), some (.ref 3), none] ?_
  refine Rn.aload_n dX5_bringBack_0 rfl rfl ?_
  refine Rn.getI dX5_bringBack_1 fd_X5_18_4 (by first | rfl | exact gC0 (by assumption) | exact gL0 (by assumption)) rfl ?_
  refine Rn.topI (nI 3) (by exact h2) ?_
  refine Rn.if_lt (tgt := 28) dX5_bringBack_4 (by decide) (fun h9 => absurd h9 (by decide)) (fun _ => ?_)
  refine Rn.aload_n dX5_bringBack_7 rfl rfl ?_
  refine Rn.getI dX5_bringBack_8 fd_X5_18_4 (by first | rfl | exact gC0 (by assumption) | exact gL0 (by assumption)) rfl ?_
  refine Rn.topI (nI 3) (by exact h2) ?_
  refine Rn.bipush (v := (nI 12)) dX5_bringBack_11 rfl ?_
  refine Rn.icmp_ge (tgt := 28) dX5_bringBack_13 (by decide) (fun h9 => absurd h9 (by decide)) (fun _ => ?_)
  refine Rn.aload_n dX5_bringBack_16 rfl rfl ?_
  refine Rn.getR dX5_bringBack_17 fd_X5_11_4 (by first | rfl | exact gC0 (by assumption) | exact gL0 (by assumption)) rfl ?_
  refine Rn.aload_n dX5_bringBack_20 rfl rfl ?_
  refine Rn.getI dX5_bringBack_21 fd_X5_18_4 (by first | rfl | exact gC0 (by assumption) | exact gL0 (by assumption)) rfl ?_
  refine Rn.topI (nI 3) (by exact h2) ?_
  refine Rn.aald (a := 45) (n := 12) (f := fM 12) (r := 58) dX5_bringBack_24 rfl (vp_in_nI (by decide) (by decide)) (by decide) ?_
  refine Rn.goto 29 dX5_bringBack_25 (by decide) ?_
  refine Rn.astore_n dX5_bringBack_29 rfl (by decide) ?_
  refine Rn.aload_n dX5_bringBack_30 rfl rfl ?_
  refine Rn.getI dX5_bringBack_31 fd_X5_26_4 (by first | rfl | exact gC0 (by assumption) | exact gL0 (by assumption)) rfl ?_
  refine Rn.topI (nI (s + 1)) (by exact h1) ?_
  refine Rn.if_leN dX5_bringBack_34 41 (fun h9 => by exfalso; omega) (fun _ => ?_)
  refine Rn.aload_n dX5_bringBack_37 rfl rfl ?_
  refine Rn.ifnonnull 43 dX5_bringBack_38 (by decide) ?_
  refine Rn.aload_n dX5_bringBack_43 rfl rfl ?_
  refine Rn.aload_n dX5_bringBack_44 rfl rfl ?_
  refine Rn.callV (As := [_]) dX5_bringBack_45 mv_X5_22 (by first | rfl | exact gC0 (by assumption) | exact gL0 (by assumption)) rfl rfl rfl (Nat.le_of_ble_eq_true rfl) (ct_cp58_3 G d I) (fun _ _ h => h) (fun v J h => ?_)
  obtain ⟨rfl, c1, c2, c3⟩ := h
  refine Rn.aload_n dX5_bringBack_48 rfl rfl ?_
  refine Rn.aload_n dX5_bringBack_49 rfl rfl ?_
  refine Rn.getI dX5_bringBack_50 fd_X5_18_4 (by first | rfl | exact gC0 (by assumption) | exact gL0 (by assumption)) rfl ?_
  refine Rn.topI (nI 3) (by rw [c3 44 (by decide)]; exact h2) ?_
  refine Rn.bipush (v := (nI 12)) dX5_bringBack_53 rfl ?_
  refine Rn.iadd dX5_bringBack_55 ?_
  refine Rn.iconst (v := (nI 1)) dX5_bringBack_56 rfl ?_
  refine Rn.isub dX5_bringBack_57 ?_
  refine Rn.bipush (v := (nI 12)) dX5_bringBack_58 rfl ?_
  refine Rn.irem dX5_bringBack_60 (by decide) ?_
  refine Rn.topI (nI 2) (by decide) ?_
  refine Rn.putI dX5_bringBack_61 fp_X5_18_4 (by first | rfl | exact gC0 (by assumption) | exact gL0 (by assumption)) rfl ?_
  refine Rn.aload_n dX5_bringBack_64 rfl rfl ?_
  refine Rn.dup dX5_bringBack_65 rfl ?_
  refine Rn.getI dX5_bringBack_66 fd_X5_26_4 (by first | rfl | exact gC0 (by assumption) | exact gL0 (by assumption)) rfl ?_
  refine Rn.topI (nI (s + 1)) (by rw [zup_at, upd_ne _ _ (by decide), c3 44 (by decide)]; exact h1) ?_
  refine Rn.iconst (v := (nI 1)) dX5_bringBack_69 rfl ?_
  refine Rn.isub dX5_bringBack_70 ?_
  refine Rn.topI (nI s) (by rw [← nI_1]; exact Int32.add_sub_cancel _ _) ?_
  refine Rn.putI dX5_bringBack_71 fp_X5_26_4 (by first | rfl | exact gC0 (by assumption) | exact gL0 (by assumption)) rfl ?_
  refine Rn.iconst (v := (nI 1)) dX5_bringBack_74 rfl ?_
  exact Rn.zret dX5_bringBack_75 rfl rfl (kk _ c1 c2 c3)
theorem bri_4 (I : Hi) (s : Nat) (hs : s < 12) (h1 : I 44 1 = nI (s + 1)) (h2 : I 44 2 = nI 4) (P : Option Value → Hi → Prop) (kk : ∀ L, (∀ j, j < 9 → L 3 j = I 62 j) → (∀ j, j < 72 → L 5 j = I 64 j) → (∀ a, ¬ (3 ≤ a ∧ a ≤ 6) → L a = I a) → P (some (.int (nI 1))) (zup (zup L 44 2 (nI 3)) 44 1 (nI s))) : Ct G GAM mX5_bringBack (d + 1) 0 [.ref 44, .ref 3] I (Rv P) := by
  refine Ct.mk [some (.ref 44), some (.ref 3), none] ?_
  refine Rn.aload_n dX5_bringBack_0 rfl rfl ?_
  refine Rn.getI dX5_bringBack_1 fd_X5_18_4 (by first | rfl | exact gC0 (by assumption) | exact gL0 (by assumption)) rfl ?_
  refine Rn.topI (nI 4) (by exact h2) ?_
  refine Rn.if_lt (tgt := 28) dX5_bringBack_4 (by decide) (fun h9 => absurd h9 (by decide)) (fun _ => ?_)
  refine Rn.aload_n dX5_bringBack_7 rfl rfl ?_
  refine Rn.getI dX5_bringBack_8 fd_X5_18_4 (by first | rfl | exact gC0 (by assumption) | exact gL0 (by assumption)) rfl ?_
  refine Rn.topI (nI 4) (by exact h2) ?_
  refine Rn.bipush (v := (nI 12)) dX5_bringBack_11 rfl ?_
  refine Rn.icmp_ge (tgt := 28) dX5_bringBack_13 (by decide) (fun h9 => absurd h9 (by decide)) (fun _ => ?_)
  refine Rn.aload_n dX5_bringBack_16 rfl rfl ?_
  refine Rn.getR dX5_bringBack_17 fd_X5_11_4 (by first | rfl | exact gC0 (by assumption) | exact gL0 (by assumption)) rfl ?_
  refine Rn.aload_n dX5_bringBack_20 rfl rfl ?_
  refine Rn.getI dX5_bringBack_21 fd_X5_18_4 (by first | rfl | exact gC0 (by assumption) | exact gL0 (by assumption)) rfl ?_
  refine Rn.topI (nI 4) (by exact h2) ?_
  refine Rn.aald (a := 45) (n := 12) (f := fM 12) (r := 62) dX5_bringBack_24 rfl (vp_in_nI (by decide) (by decide)) (by decide) ?_
  refine Rn.goto 29 dX5_bringBack_25 (by decide) ?_
  refine Rn.astore_n dX5_bringBack_29 rfl (by decide) ?_
  refine Rn.aload_n dX5_bringBack_30 rfl rfl ?_
  refine Rn.getI dX5_bringBack_31 fd_X5_26_4 (by first | rfl | exact gC0 (by assumption) | exact gL0 (by assumption)) rfl ?_
  refine Rn.topI (nI (s + 1)) (by exact h1) ?_
  refine Rn.if_leN dX5_bringBack_34 41 (fun h9 => by exfalso; omega) (fun _ => ?_)
  refine Rn.aload_n dX5_bringBack_37 rfl rfl ?_
  refine Rn.ifnonnull 43 dX5_bringBack_38 (by decide) ?_
  refine Rn.aload_n dX5_bringBack_43 rfl rfl ?_
  refine Rn.aload_n dX5_bringBack_44 rfl rfl ?_
  refine Rn.callV (As := [_]) dX5_bringBack_45 mv_X5_22 (by first | rfl | exact gC0 (by assumption) | exact gL0 (by assumption)) rfl rfl rfl (Nat.le_of_ble_eq_true rfl) (ct_cp62_3 G d I) (fun _ _ h => h) (fun v J h => ?_)
  obtain ⟨rfl, c1, c2, c3⟩ := h
  refine Rn.aload_n dX5_bringBack_48 rfl rfl ?_
  refine Rn.aload_n dX5_bringBack_49 rfl rfl ?_
  refine Rn.getI dX5_bringBack_50 fd_X5_18_4 (by first | rfl | exact gC0 (by assumption) | exact gL0 (by assumption)) rfl ?_
  refine Rn.topI (nI 4) (by rw [c3 44 (by decide)]; exact h2) ?_
  refine Rn.bipush (v := (nI 12)) dX5_bringBack_53 rfl ?_
  refine Rn.iadd dX5_bringBack_55 ?_
  refine Rn.iconst (v := (nI 1)) dX5_bringBack_56 rfl ?_
  refine Rn.isub dX5_bringBack_57 ?_
  refine Rn.bipush (v := (nI 12)) dX5_bringBack_58 rfl ?_
  refine Rn.irem dX5_bringBack_60 (by decide) ?_
  refine Rn.topI (nI 3) (by decide) ?_
  refine Rn.putI dX5_bringBack_61 fp_X5_18_4 (by first | rfl | exact gC0 (by assumption) | exact gL0 (by assumption)) rfl ?_
  refine Rn.aload_n dX5_bringBack_64 rfl rfl ?_
  refine Rn.dup dX5_bringBack_65 rfl ?_
  refine Rn.getI dX5_bringBack_66 fd_X5_26_4 (by first | rfl | exact gC0 (by assumption) | exact gL0 (by assumption)) rfl ?_
  refine Rn.topI (nI (s + 1)) (by rw [zup_at, upd_ne _ _ (by decide), c3 44 (by decide)]; exact h1) ?_
  refine Rn.iconst (v := (nI 1)) dX5_bringBack_69 rfl ?_
  refine Rn.isub dX5_bringBack_70 ?_
  refine Rn.topI (nI s) (by rw [← nI_1]; exact Int32.add_sub_cancel _ _) ?_
  refine Rn.putI dX5_bringBack_71 fp_X5_26_4 (by first | rfl | exact gC0 (by assumption) | exact gL0 (by assumption)) rfl ?_
  refine Rn.iconst (v := (nI 1)) dX5_bringBack_74 rfl ?_
  exact Rn.zret dX5_bringBack_75 rfl rfl (kk _ c1 c2 c3)
theorem bri_5 (I : Hi) (s : Nat) (hs : s < 12) (h1 : I 44 1 = nI (s + 1)) (h2 : I 44 2 = nI 5) (P : Option Value → Hi → Prop) (kk : ∀ L, (∀ j, j < 9 → L 3 j = I 66 j) → (∀ j, j < 72 → L 5 j = I 68 j) → (∀ a, ¬ (3 ≤ a ∧ a ≤ 6) → L a = I a) → P (some (.int (nI 1))) (zup (zup L 44 2 (nI 4)) 44 1 (nI s))) : Ct G GAM mX5_bringBack (d + 1) 0 [.ref 44, .ref 3] I (Rv P) := by
  refine Ct.mk [some (.ref 44), some (.ref 3), none] ?_
  refine Rn.aload_n dX5_bringBack_0 rfl rfl ?_
  refine Rn.getI dX5_bringBack_1 fd_X5_18_4 (by first | rfl | exact gC0 (by assumption) | exact gL0 (by assumption)) rfl ?_
  refine Rn.topI (nI 5) (by exact h2) ?_
  refine Rn.if_lt (tgt := 28) dX5_bringBack_4 (by decide) (fun h9 => absurd h9 (by decide)) (fun _ => ?_)
  refine Rn.aload_n dX5_bringBack_7 rfl rfl ?_
  refine Rn.getI dX5_bringBack_8 fd_X5_18_4 (by first | rfl | exact gC0 (by assumption) | exact gL0 (by assumption)) rfl ?_
  refine Rn.topI (nI 5) (by exact h2) ?_
  refine Rn.bipush (v := (nI 12)) dX5_bringBack_11 rfl ?_
  refine Rn.icmp_ge (tgt := 28) dX5_bringBack_13 (by decide) (fun h9 => absurd h9 (by decide)) (fun _ => ?_)
  refine Rn.aload_n dX5_bringBack_16 rfl rfl ?_
  refine Rn.getR dX5_bringBack_17 fd_X5_11_4 (by first | rfl | exact gC0 (by assumption) | exact gL0 (by assumption)) rfl ?_
  refine Rn.aload_n dX5_bringBack_20 rfl rfl ?_
  refine Rn.getI dX5_bringBack_21 fd_X5_18_4 (by first | rfl | exact gC0 (by assumption) | exact gL0 (by assumption)) rfl ?_
  refine Rn.topI (nI 5) (by exact h2) ?_
  refine Rn.aald (a := 45) (n := 12) (f := fM 12) (r := 66) dX5_bringBack_24 rfl (vp_in_nI (by decide) (by decide)) (by decide) ?_
  refine Rn.goto 29 dX5_bringBack_25 (by decide) ?_
  refine Rn.astore_n dX5_bringBack_29 rfl (by decide) ?_
  refine Rn.aload_n dX5_bringBack_30 rfl rfl ?_
  refine Rn.getI dX5_bringBack_31 fd_X5_26_4 (by first | rfl | exact gC0 (by assumption) | exact gL0 (by assumption)) rfl ?_
  refine Rn.topI (nI (s + 1)) (by exact h1) ?_
  refine Rn.if_leN dX5_bringBack_34 41 (fun h9 => by exfalso; omega) (fun _ => ?_)
  refine Rn.aload_n dX5_bringBack_37 rfl rfl ?_
  refine Rn.ifnonnull 43 dX5_bringBack_38 (by decide) ?_
  refine Rn.aload_n dX5_bringBack_43 rfl rfl ?_
  refine Rn.aload_n dX5_bringBack_44 rfl rfl ?_
  refine Rn.callV (As := [_]) dX5_bringBack_45 mv_X5_22 (by first | rfl | exact gC0 (by assumption) | exact gL0 (by assumption)) rfl rfl rfl (Nat.le_of_ble_eq_true rfl) (ct_cp66_3 G d I) (fun _ _ h => h) (fun v J h => ?_)
  obtain ⟨rfl, c1, c2, c3⟩ := h
  refine Rn.aload_n dX5_bringBack_48 rfl rfl ?_
  refine Rn.aload_n dX5_bringBack_49 rfl rfl ?_
  refine Rn.getI dX5_bringBack_50 fd_X5_18_4 (by first | rfl | exact gC0 (by assumption) | exact gL0 (by assumption)) rfl ?_
  refine Rn.topI (nI 5) (by rw [c3 44 (by decide)]; exact h2) ?_
  refine Rn.bipush (v := (nI 12)) dX5_bringBack_53 rfl ?_
  refine Rn.iadd dX5_bringBack_55 ?_
  refine Rn.iconst (v := (nI 1)) dX5_bringBack_56 rfl ?_
  refine Rn.isub dX5_bringBack_57 ?_
  refine Rn.bipush (v := (nI 12)) dX5_bringBack_58 rfl ?_
  refine Rn.irem dX5_bringBack_60 (by decide) ?_
  refine Rn.topI (nI 4) (by decide) ?_
  refine Rn.putI dX5_bringBack_61 fp_X5_18_4 (by first | rfl | exact gC0 (by assumption) | exact gL0 (by assumption)) rfl ?_
  refine Rn.aload_n dX5_bringBack_64 rfl rfl ?_
  refine Rn.dup dX5_bringBack_65 rfl ?_
  refine Rn.getI dX5_bringBack_66 fd_X5_26_4 (by first | rfl | exact gC0 (by assumption) | exact gL0 (by assumption)) rfl ?_
  refine Rn.topI (nI (s + 1)) (by rw [zup_at, upd_ne _ _ (by decide), c3 44 (by decide)]; exact h1) ?_
  refine Rn.iconst (v := (nI 1)) dX5_bringBack_69 rfl ?_
  refine Rn.isub dX5_bringBack_70 ?_
  refine Rn.topI (nI s) (by rw [← nI_1]; exact Int32.add_sub_cancel _ _) ?_
  refine Rn.putI dX5_bringBack_71 fp_X5_26_4 (by first | rfl | exact gC0 (by assumption) | exact gL0 (by assumption)) rfl ?_
  refine Rn.iconst (v := (nI 1)) dX5_bringBack_74 rfl ?_
  exact Rn.zret dX5_bringBack_75 rfl rfl (kk _ c1 c2 c3)
theorem bri_6 (I : Hi) (s : Nat) (hs : s < 12) (h1 : I 44 1 = nI (s + 1)) (h2 : I 44 2 = nI 6) (P : Option Value → Hi → Prop) (kk : ∀ L, (∀ j, j < 9 → L 3 j = I 70 j) → (∀ j, j < 72 → L 5 j = I 72 j) → (∀ a, ¬ (3 ≤ a ∧ a ≤ 6) → L a = I a) → P (some (.int (nI 1))) (zup (zup L 44 2 (nI 5)) 44 1 (nI s))) : Ct G GAM mX5_bringBack (d + 1) 0 [.ref 44, .ref 3] I (Rv P) := by
  refine Ct.mk [some (.ref 44), some (.ref 3), none] ?_
  refine Rn.aload_n dX5_bringBack_0 rfl rfl ?_
  refine Rn.getI dX5_bringBack_1 fd_X5_18_4 (by first | rfl | exact gC0 (by assumption) | exact gL0 (by assumption)) rfl ?_
  refine Rn.topI (nI 6) (by exact h2) ?_
  refine Rn.if_lt (tgt := 28) dX5_bringBack_4 (by decide) (fun h9 => absurd h9 (by decide)) (fun _ => ?_)
  refine Rn.aload_n dX5_bringBack_7 rfl rfl ?_
  refine Rn.getI dX5_bringBack_8 fd_X5_18_4 (by first | rfl | exact gC0 (by assumption) | exact gL0 (by assumption)) rfl ?_
  refine Rn.topI (nI 6) (by exact h2) ?_
  refine Rn.bipush (v := (nI 12)) dX5_bringBack_11 rfl ?_
  refine Rn.icmp_ge (tgt := 28) dX5_bringBack_13 (by decide) (fun h9 => absurd h9 (by decide)) (fun _ => ?_)
  refine Rn.aload_n dX5_bringBack_16 rfl rfl ?_
  refine Rn.getR dX5_bringBack_17 fd_X5_11_4 (by first | rfl | exact gC0 (by assumption) | exact gL0 (by assumption)) rfl ?_
  refine Rn.aload_n dX5_bringBack_20 rfl rfl ?_
  refine Rn.getI dX5_bringBack_21 fd_X5_18_4 (by first | rfl | exact gC0 (by assumption) | exact gL0 (by assumption)) rfl ?_
  refine Rn.topI (nI 6) (by exact h2) ?_
  refine Rn.aald (a := 45) (n := 12) (f := fM 12) (r := 70) dX5_bringBack_24 rfl (vp_in_nI (by decide) (by decide)) (by decide) ?_
  refine Rn.goto 29 dX5_bringBack_25 (by decide) ?_
  refine Rn.astore_n dX5_bringBack_29 rfl (by decide) ?_
  refine Rn.aload_n dX5_bringBack_30 rfl rfl ?_
  refine Rn.getI dX5_bringBack_31 fd_X5_26_4 (by first | rfl | exact gC0 (by assumption) | exact gL0 (by assumption)) rfl ?_
  refine Rn.topI (nI (s + 1)) (by exact h1) ?_
  refine Rn.if_leN dX5_bringBack_34 41 (fun h9 => by exfalso; omega) (fun _ => ?_)
  refine Rn.aload_n dX5_bringBack_37 rfl rfl ?_
  refine Rn.ifnonnull 43 dX5_bringBack_38 (by decide) ?_
  refine Rn.aload_n dX5_bringBack_43 rfl rfl ?_
  refine Rn.aload_n dX5_bringBack_44 rfl rfl ?_
  refine Rn.callV (As := [_]) dX5_bringBack_45 mv_X5_22 (by first | rfl | exact gC0 (by assumption) | exact gL0 (by assumption)) rfl rfl rfl (Nat.le_of_ble_eq_true rfl) (ct_cp70_3 G d I) (fun _ _ h => h) (fun v J h => ?_)
  obtain ⟨rfl, c1, c2, c3⟩ := h
  refine Rn.aload_n dX5_bringBack_48 rfl rfl ?_
  refine Rn.aload_n dX5_bringBack_49 rfl rfl ?_
  refine Rn.getI dX5_bringBack_50 fd_X5_18_4 (by first | rfl | exact gC0 (by assumption) | exact gL0 (by assumption)) rfl ?_
  refine Rn.topI (nI 6) (by rw [c3 44 (by decide)]; exact h2) ?_
  refine Rn.bipush (v := (nI 12)) dX5_bringBack_53 rfl ?_
  refine Rn.iadd dX5_bringBack_55 ?_
  refine Rn.iconst (v := (nI 1)) dX5_bringBack_56 rfl ?_
  refine Rn.isub dX5_bringBack_57 ?_
  refine Rn.bipush (v := (nI 12)) dX5_bringBack_58 rfl ?_
  refine Rn.irem dX5_bringBack_60 (by decide) ?_
  refine Rn.topI (nI 5) (by decide) ?_
  refine Rn.putI dX5_bringBack_61 fp_X5_18_4 (by first | rfl | exact gC0 (by assumption) | exact gL0 (by assumption)) rfl ?_
  refine Rn.aload_n dX5_bringBack_64 rfl rfl ?_
  refine Rn.dup dX5_bringBack_65 rfl ?_
  refine Rn.getI dX5_bringBack_66 fd_X5_26_4 (by first | rfl | exact gC0 (by assumption) | exact gL0 (by assumption)) rfl ?_
  refine Rn.topI (nI (s + 1)) (by rw [zup_at, upd_ne _ _ (by decide), c3 44 (by decide)]; exact h1) ?_
  refine Rn.iconst (v := (nI 1)) dX5_bringBack_69 rfl ?_
  refine Rn.isub dX5_bringBack_70 ?_
  refine Rn.topI (nI s) (by rw [← nI_1]; exact Int32.add_sub_cancel _ _) ?_
  refine Rn.putI dX5_bringBack_71 fp_X5_26_4 (by first | rfl | exact gC0 (by assumption) | exact gL0 (by assumption)) rfl ?_
  refine Rn.iconst (v := (nI 1)) dX5_bringBack_74 rfl ?_
  exact Rn.zret dX5_bringBack_75 rfl rfl (kk _ c1 c2 c3)
theorem bri_7 (I : Hi) (s : Nat) (hs : s < 12) (h1 : I 44 1 = nI (s + 1)) (h2 : I 44 2 = nI 7) (P : Option Value → Hi → Prop) (kk : ∀ L, (∀ j, j < 9 → L 3 j = I 74 j) → (∀ j, j < 72 → L 5 j = I 76 j) → (∀ a, ¬ (3 ≤ a ∧ a ≤ 6) → L a = I a) → P (some (.int (nI 1))) (zup (zup L 44 2 (nI 6)) 44 1 (nI s))) : Ct G GAM mX5_bringBack (d + 1) 0 [.ref 44, .ref 3] I (Rv P) := by
  refine Ct.mk [some (.ref 44), some (.ref 3), none] ?_
  refine Rn.aload_n dX5_bringBack_0 rfl rfl ?_
  refine Rn.getI dX5_bringBack_1 fd_X5_18_4 (by first | rfl | exact gC0 (by assumption) | exact gL0 (by assumption)) rfl ?_
  refine Rn.topI (nI 7) (by exact h2) ?_
  refine Rn.if_lt (tgt := 28) dX5_bringBack_4 (by decide) (fun h9 => absurd h9 (by decide)) (fun _ => ?_)
  refine Rn.aload_n dX5_bringBack_7 rfl rfl ?_
  refine Rn.getI dX5_bringBack_8 fd_X5_18_4 (by first | rfl | exact gC0 (by assumption) | exact gL0 (by assumption)) rfl ?_
  refine Rn.topI (nI 7) (by exact h2) ?_
  refine Rn.bipush (v := (nI 12)) dX5_bringBack_11 rfl ?_
  refine Rn.icmp_ge (tgt := 28) dX5_bringBack_13 (by decide) (fun h9 => absurd h9 (by decide)) (fun _ => ?_)
  refine Rn.aload_n dX5_bringBack_16 rfl rfl ?_
  refine Rn.getR dX5_bringBack_17 fd_X5_11_4 (by first | rfl | exact gC0 (by assumption) | exact gL0 (by assumption)) rfl ?_
  refine Rn.aload_n dX5_bringBack_20 rfl rfl ?_
  refine Rn.getI dX5_bringBack_21 fd_X5_18_4 (by first | rfl | exact gC0 (by assumption) | exact gL0 (by assumption)) rfl ?_
  refine Rn.topI (nI 7) (by exact h2) ?_
  refine Rn.aald (a := 45) (n := 12) (f := fM 12) (r := 74) dX5_bringBack_24 rfl (vp_in_nI (by decide) (by decide)) (by decide) ?_
  refine Rn.goto 29 dX5_bringBack_25 (by decide) ?_
  refine Rn.astore_n dX5_bringBack_29 rfl (by decide) ?_
  refine Rn.aload_n dX5_bringBack_30 rfl rfl ?_
  refine Rn.getI dX5_bringBack_31 fd_X5_26_4 (by first | rfl | exact gC0 (by assumption) | exact gL0 (by assumption)) rfl ?_
  refine Rn.topI (nI (s + 1)) (by exact h1) ?_
  refine Rn.if_leN dX5_bringBack_34 41 (fun h9 => by exfalso; omega) (fun _ => ?_)
  refine Rn.aload_n dX5_bringBack_37 rfl rfl ?_
  refine Rn.ifnonnull 43 dX5_bringBack_38 (by decide) ?_
  refine Rn.aload_n dX5_bringBack_43 rfl rfl ?_
  refine Rn.aload_n dX5_bringBack_44 rfl rfl ?_
  refine Rn.callV (As := [_]) dX5_bringBack_45 mv_X5_22 (by first | rfl | exact gC0 (by assumption) | exact gL0 (by assumption)) rfl rfl rfl (Nat.le_of_ble_eq_true rfl) (ct_cp74_3 G d I) (fun _ _ h => h) (fun v J h => ?_)
  obtain ⟨rfl, c1, c2, c3⟩ := h
  refine Rn.aload_n dX5_bringBack_48 rfl rfl ?_
  refine Rn.aload_n dX5_bringBack_49 rfl rfl ?_
  refine Rn.getI dX5_bringBack_50 fd_X5_18_4 (by first | rfl | exact gC0 (by assumption) | exact gL0 (by assumption)) rfl ?_
  refine Rn.topI (nI 7) (by rw [c3 44 (by decide)]; exact h2) ?_
  refine Rn.bipush (v := (nI 12)) dX5_bringBack_53 rfl ?_
  refine Rn.iadd dX5_bringBack_55 ?_
  refine Rn.iconst (v := (nI 1)) dX5_bringBack_56 rfl ?_
  refine Rn.isub dX5_bringBack_57 ?_
  refine Rn.bipush (v := (nI 12)) dX5_bringBack_58 rfl ?_
  refine Rn.irem dX5_bringBack_60 (by decide) ?_
  refine Rn.topI (nI 6) (by decide) ?_
  refine Rn.putI dX5_bringBack_61 fp_X5_18_4 (by first | rfl | exact gC0 (by assumption) | exact gL0 (by assumption)) rfl ?_
  refine Rn.aload_n dX5_bringBack_64 rfl rfl ?_
  refine Rn.dup dX5_bringBack_65 rfl ?_
  refine Rn.getI dX5_bringBack_66 fd_X5_26_4 (by first | rfl | exact gC0 (by assumption) | exact gL0 (by assumption)) rfl ?_
  refine Rn.topI (nI (s + 1)) (by rw [zup_at, upd_ne _ _ (by decide), c3 44 (by decide)]; exact h1) ?_
  refine Rn.iconst (v := (nI 1)) dX5_bringBack_69 rfl ?_
  refine Rn.isub dX5_bringBack_70 ?_
  refine Rn.topI (nI s) (by rw [← nI_1]; exact Int32.add_sub_cancel _ _) ?_
  refine Rn.putI dX5_bringBack_71 fp_X5_26_4 (by first | rfl | exact gC0 (by assumption) | exact gL0 (by assumption)) rfl ?_
  refine Rn.iconst (v := (nI 1)) dX5_bringBack_74 rfl ?_
  exact Rn.zret dX5_bringBack_75 rfl rfl (kk _ c1 c2 c3)
theorem bri_8 (I : Hi) (s : Nat) (hs : s < 12) (h1 : I 44 1 = nI (s + 1)) (h2 : I 44 2 = nI 8) (P : Option Value → Hi → Prop) (kk : ∀ L, (∀ j, j < 9 → L 3 j = I 78 j) → (∀ j, j < 72 → L 5 j = I 80 j) → (∀ a, ¬ (3 ≤ a ∧ a ≤ 6) → L a = I a) → P (some (.int (nI 1))) (zup (zup L 44 2 (nI 7)) 44 1 (nI s))) : Ct G GAM mX5_bringBack (d + 1) 0 [.ref 44, .ref 3] I (Rv P) := by
  refine Ct.mk [some (.ref 44), some (.ref 3), none] ?_
  refine Rn.aload_n dX5_bringBack_0 rfl rfl ?_
  refine Rn.getI dX5_bringBack_1 fd_X5_18_4 (by first | rfl | exact gC0 (by assumption) | exact gL0 (by assumption)) rfl ?_
  refine Rn.topI (nI 8) (by exact h2) ?_
  refine Rn.if_lt (tgt := 28) dX5_bringBack_4 (by decide) (fun h9 => absurd h9 (by decide)) (fun _ => ?_)
  refine Rn.aload_n dX5_bringBack_7 rfl rfl ?_
  refine Rn.getI dX5_bringBack_8 fd_X5_18_4 (by first | rfl | exact gC0 (by assumption) | exact gL0 (by assumption)) rfl ?_
  refine Rn.topI (nI 8) (by exact h2) ?_
  refine Rn.bipush (v := (nI 12)) dX5_bringBack_11 rfl ?_
  refine Rn.icmp_ge (tgt := 28) dX5_bringBack_13 (by decide) (fun h9 => absurd h9 (by decide)) (fun _ => ?_)
  refine Rn.aload_n dX5_bringBack_16 rfl rfl ?_
  refine Rn.getR dX5_bringBack_17 fd_X5_11_4 (by first | rfl | exact gC0 (by assumption) | exact gL0 (by assumption)) rfl ?_
  refine Rn.aload_n dX5_bringBack_20 rfl rfl ?_
  refine Rn.getI dX5_bringBack_21 fd_X5_18_4 (by first | rfl | exact gC0 (by assumption) | exact gL0 (by assumption)) rfl ?_
  refine Rn.topI (nI 8) (by exact h2) ?_
  refine Rn.aald (a := 45) (n := 12) (f := fM 12) (r := 78) dX5_bringBack_24 rfl (vp_in_nI (by decide) (by decide)) (by decide) ?_
  refine Rn.goto 29 dX5_bringBack_25 (by decide) ?_
  refine Rn.astore_n dX5_bringBack_29 rfl (by decide) ?_
  refine Rn.aload_n dX5_bringBack_30 rfl rfl ?_
  refine Rn.getI dX5_bringBack_31 fd_X5_26_4 (by first | rfl | exact gC0 (by assumption) | exact gL0 (by assumption)) rfl ?_
  refine Rn.topI (nI (s + 1)) (by exact h1) ?_
  refine Rn.if_leN dX5_bringBack_34 41 (fun h9 => by exfalso; omega) (fun _ => ?_)
  refine Rn.aload_n dX5_bringBack_37 rfl rfl ?_
  refine Rn.ifnonnull 43 dX5_bringBack_38 (by decide) ?_
  refine Rn.aload_n dX5_bringBack_43 rfl rfl ?_
  refine Rn.aload_n dX5_bringBack_44 rfl rfl ?_
  refine Rn.callV (As := [_]) dX5_bringBack_45 mv_X5_22 (by first | rfl | exact gC0 (by assumption) | exact gL0 (by assumption)) rfl rfl rfl (Nat.le_of_ble_eq_true rfl) (ct_cp78_3 G d I) (fun _ _ h => h) (fun v J h => ?_)
  obtain ⟨rfl, c1, c2, c3⟩ := h
  refine Rn.aload_n dX5_bringBack_48 rfl rfl ?_
  refine Rn.aload_n dX5_bringBack_49 rfl rfl ?_
  refine Rn.getI dX5_bringBack_50 fd_X5_18_4 (by first | rfl | exact gC0 (by assumption) | exact gL0 (by assumption)) rfl ?_
  refine Rn.topI (nI 8) (by rw [c3 44 (by decide)]; exact h2) ?_
  refine Rn.bipush (v := (nI 12)) dX5_bringBack_53 rfl ?_
  refine Rn.iadd dX5_bringBack_55 ?_
  refine Rn.iconst (v := (nI 1)) dX5_bringBack_56 rfl ?_
  refine Rn.isub dX5_bringBack_57 ?_
  refine Rn.bipush (v := (nI 12)) dX5_bringBack_58 rfl ?_
  refine Rn.irem dX5_bringBack_60 (by decide) ?_
  refine Rn.topI (nI 7) (by decide) ?_
  refine Rn.putI dX5_bringBack_61 fp_X5_18_4 (by first | rfl | exact gC0 (by assumption) | exact gL0 (by assumption)) rfl ?_
  refine Rn.aload_n dX5_bringBack_64 rfl rfl ?_
  refine Rn.dup dX5_bringBack_65 rfl ?_
  refine Rn.getI dX5_bringBack_66 fd_X5_26_4 (by first | rfl | exact gC0 (by assumption) | exact gL0 (by assumption)) rfl ?_
  refine Rn.topI (nI (s + 1)) (by rw [zup_at, upd_ne _ _ (by decide), c3 44 (by decide)]; exact h1) ?_
  refine Rn.iconst (v := (nI 1)) dX5_bringBack_69 rfl ?_
  refine Rn.isub dX5_bringBack_70 ?_
  refine Rn.topI (nI s) (by rw [← nI_1]; exact Int32.add_sub_cancel _ _) ?_
  refine Rn.putI dX5_bringBack_71 fp_X5_26_4 (by first | rfl | exact gC0 (by assumption) | exact gL0 (by assumption)) rfl ?_
  refine Rn.iconst (v := (nI 1)) dX5_bringBack_74 rfl ?_
  exact Rn.zret dX5_bringBack_75 rfl rfl (kk _ c1 c2 c3)
theorem bri_9 (I : Hi) (s : Nat) (hs : s < 12) (h1 : I 44 1 = nI (s + 1)) (h2 : I 44 2 = nI 9) (P : Option Value → Hi → Prop) (kk : ∀ L, (∀ j, j < 9 → L 3 j = I 82 j) → (∀ j, j < 72 → L 5 j = I 84 j) → (∀ a, ¬ (3 ≤ a ∧ a ≤ 6) → L a = I a) → P (some (.int (nI 1))) (zup (zup L 44 2 (nI 8)) 44 1 (nI s))) : Ct G GAM mX5_bringBack (d + 1) 0 [.ref 44, .ref 3] I (Rv P) := by
  refine Ct.mk [some (.ref 44), some (.ref 3), none] ?_
  refine Rn.aload_n dX5_bringBack_0 rfl rfl ?_
  refine Rn.getI dX5_bringBack_1 fd_X5_18_4 (by first | rfl | exact gC0 (by assumption) | exact gL0 (by assumption)) rfl ?_
  refine Rn.topI (nI 9) (by exact h2) ?_
  refine Rn.if_lt (tgt := 28) dX5_bringBack_4 (by decide) (fun h9 => absurd h9 (by decide)) (fun _ => ?_)
  refine Rn.aload_n dX5_bringBack_7 rfl rfl ?_
  refine Rn.getI dX5_bringBack_8 fd_X5_18_4 (by first | rfl | exact gC0 (by assumption) | exact gL0 (by assumption)) rfl ?_
  refine Rn.topI (nI 9) (by exact h2) ?_
  refine Rn.bipush (v := (nI 12)) dX5_bringBack_11 rfl ?_
  refine Rn.icmp_ge (tgt := 28) dX5_bringBack_13 (by decide) (fun h9 => absurd h9 (by decide)) (fun _ => ?_)
  refine Rn.aload_n dX5_bringBack_16 rfl rfl ?_
  refine Rn.getR dX5_bringBack_17 fd_X5_11_4 (by first | rfl | exact gC0 (by assumption) | exact gL0 (by assumption)) rfl ?_
  refine Rn.aload_n dX5_bringBack_20 rfl rfl ?_
  refine Rn.getI dX5_bringBack_21 fd_X5_18_4 (by first | rfl | exact gC0 (by assumption) | exact gL0 (by assumption)) rfl ?_
  refine Rn.topI (nI 9) (by exact h2) ?_
  refine Rn.aald (a := 45) (n := 12) (f := fM 12) (r := 82) dX5_bringBack_24 rfl (vp_in_nI (by decide) (by decide)) (by decide) ?_
  refine Rn.goto 29 dX5_bringBack_25 (by decide) ?_
  refine Rn.astore_n dX5_bringBack_29 rfl (by decide) ?_
  refine Rn.aload_n dX5_bringBack_30 rfl rfl ?_
  refine Rn.getI dX5_bringBack_31 fd_X5_26_4 (by first | rfl | exact gC0 (by assumption) | exact gL0 (by assumption)) rfl ?_
  refine Rn.topI (nI (s + 1)) (by exact h1) ?_
  refine Rn.if_leN dX5_bringBack_34 41 (fun h9 => by exfalso; omega) (fun _ => ?_)
  refine Rn.aload_n dX5_bringBack_37 rfl rfl ?_
  refine Rn.ifnonnull 43 dX5_bringBack_38 (by decide) ?_
  refine Rn.aload_n dX5_bringBack_43 rfl rfl ?_
  refine Rn.aload_n dX5_bringBack_44 rfl rfl ?_
  refine Rn.callV (As := [_]) dX5_bringBack_45 mv_X5_22 (by first | rfl | exact gC0 (by assumption) | exact gL0 (by assumption)) rfl rfl rfl (Nat.le_of_ble_eq_true rfl) (ct_cp82_3 G d I) (fun _ _ h => h) (fun v J h => ?_)
  obtain ⟨rfl, c1, c2, c3⟩ := h
  refine Rn.aload_n dX5_bringBack_48 rfl rfl ?_
  refine Rn.aload_n dX5_bringBack_49 rfl rfl ?_
  refine Rn.getI dX5_bringBack_50 fd_X5_18_4 (by first | rfl | exact gC0 (by assumption) | exact gL0 (by assumption)) rfl ?_
  refine Rn.topI (nI 9) (by rw [c3 44 (by decide)]; exact h2) ?_
  refine Rn.bipush (v := (nI 12)) dX5_bringBack_53 rfl ?_
  refine Rn.iadd dX5_bringBack_55 ?_
  refine Rn.iconst (v := (nI 1)) dX5_bringBack_56 rfl ?_
  refine Rn.isub dX5_bringBack_57 ?_
  refine Rn.bipush (v := (nI 12)) dX5_bringBack_58 rfl ?_
  refine Rn.irem dX5_bringBack_60 (by decide) ?_
  refine Rn.topI (nI 8) (by decide) ?_
  refine Rn.putI dX5_bringBack_61 fp_X5_18_4 (by first | rfl | exact gC0 (by assumption) | exact gL0 (by assumption)) rfl ?_
  refine Rn.aload_n dX5_bringBack_64 rfl rfl ?_
  refine Rn.dup dX5_bringBack_65 rfl ?_
  refine Rn.getI dX5_bringBack_66 fd_X5_26_4 (by first | rfl | exact gC0 (by assumption) | exact gL0 (by assumption)) rfl ?_
  refine Rn.topI (nI (s + 1)) (by rw [zup_at, upd_ne _ _ (by decide), c3 44 (by decide)]; exact h1) ?_
  refine Rn.iconst (v := (nI 1)) dX5_bringBack_69 rfl ?_
  refine Rn.isub dX5_bringBack_70 ?_
  refine Rn.topI (nI s) (by rw [← nI_1]; exact Int32.add_sub_cancel _ _) ?_
  refine Rn.putI dX5_bringBack_71 fp_X5_26_4 (by first | rfl | exact gC0 (by assumption) | exact gL0 (by assumption)) rfl ?_
  refine Rn.iconst (v := (nI 1)) dX5_bringBack_74 rfl ?_
  exact Rn.zret dX5_bringBack_75 rfl rfl (kk _ c1 c2 c3)
theorem bri_10 (I : Hi) (s : Nat) (hs : s < 12) (h1 : I 44 1 = nI (s + 1)) (h2 : I 44 2 = nI 10) (P : Option Value → Hi → Prop) (kk : ∀ L, (∀ j, j < 9 → L 3 j = I 86 j) → (∀ j, j < 72 → L 5 j = I 88 j) → (∀ a, ¬ (3 ≤ a ∧ a ≤ 6) → L a = I a) → P (some (.int (nI 1))) (zup (zup L 44 2 (nI 9)) 44 1 (nI s))) : Ct G GAM mX5_bringBack (d + 1) 0 [.ref 44, .ref 3] I (Rv P) := by
  refine Ct.mk [some (.ref 44), some (.ref 3), none] ?_
  refine Rn.aload_n dX5_bringBack_0 rfl rfl ?_
  refine Rn.getI dX5_bringBack_1 fd_X5_18_4 (by first | rfl | exact gC0 (by assumption) | exact gL0 (by assumption)) rfl ?_
  refine Rn.topI (nI 10) (by exact h2) ?_
  refine Rn.if_lt (tgt := 28) dX5_bringBack_4 (by decide) (fun h9 => absurd h9 (by decide)) (fun _ => ?_)
  refine Rn.aload_n dX5_bringBack_7 rfl rfl ?_
  refine Rn.getI dX5_bringBack_8 fd_X5_18_4 (by first | rfl | exact gC0 (by assumption) | exact gL0 (by assumption)) rfl ?_
  refine Rn.topI (nI 10) (by exact h2) ?_
  refine Rn.bipush (v := (nI 12)) dX5_bringBack_11 rfl ?_
  refine Rn.icmp_ge (tgt := 28) dX5_bringBack_13 (by decide) (fun h9 => absurd h9 (by decide)) (fun _ => ?_)
  refine Rn.aload_n dX5_bringBack_16 rfl rfl ?_
  refine Rn.getR dX5_bringBack_17 fd_X5_11_4 (by first | rfl | exact gC0 (by assumption) | exact gL0 (by assumption)) rfl ?_
  refine Rn.aload_n dX5_bringBack_20 rfl rfl ?_
  refine Rn.getI dX5_bringBack_21 fd_X5_18_4 (by first | rfl | exact gC0 (by assumption) | exact gL0 (by assumption)) rfl ?_
  refine Rn.topI (nI 10) (by exact h2) ?_
  refine Rn.aald (a := 45) (n := 12) (f := fM 12) (r := 86) dX5_bringBack_24 rfl (vp_in_nI (by decide) (by decide)) (by decide) ?_
  refine Rn.goto 29 dX5_bringBack_25 (by decide) ?_
  refine Rn.astore_n dX5_bringBack_29 rfl (by decide) ?_
  refine Rn.aload_n dX5_bringBack_30 rfl rfl ?_
  refine Rn.getI dX5_bringBack_31 fd_X5_26_4 (by first | rfl | exact gC0 (by assumption) | exact gL0 (by assumption)) rfl ?_
  refine Rn.topI (nI (s + 1)) (by exact h1) ?_
  refine Rn.if_leN dX5_bringBack_34 41 (fun h9 => by exfalso; omega) (fun _ => ?_)
  refine Rn.aload_n dX5_bringBack_37 rfl rfl ?_
  refine Rn.ifnonnull 43 dX5_bringBack_38 (by decide) ?_
  refine Rn.aload_n dX5_bringBack_43 rfl rfl ?_
  refine Rn.aload_n dX5_bringBack_44 rfl rfl ?_
  refine Rn.callV (As := [_]) dX5_bringBack_45 mv_X5_22 (by first | rfl | exact gC0 (by assumption) | exact gL0 (by assumption)) rfl rfl rfl (Nat.le_of_ble_eq_true rfl) (ct_cp86_3 G d I) (fun _ _ h => h) (fun v J h => ?_)
  obtain ⟨rfl, c1, c2, c3⟩ := h
  refine Rn.aload_n dX5_bringBack_48 rfl rfl ?_
  refine Rn.aload_n dX5_bringBack_49 rfl rfl ?_
  refine Rn.getI dX5_bringBack_50 fd_X5_18_4 (by first | rfl | exact gC0 (by assumption) | exact gL0 (by assumption)) rfl ?_
  refine Rn.topI (nI 10) (by rw [c3 44 (by decide)]; exact h2) ?_
  refine Rn.bipush (v := (nI 12)) dX5_bringBack_53 rfl ?_
  refine Rn.iadd dX5_bringBack_55 ?_
  refine Rn.iconst (v := (nI 1)) dX5_bringBack_56 rfl ?_
  refine Rn.isub dX5_bringBack_57 ?_
  refine Rn.bipush (v := (nI 12)) dX5_bringBack_58 rfl ?_
  refine Rn.irem dX5_bringBack_60 (by decide) ?_
  refine Rn.topI (nI 9) (by decide) ?_
  refine Rn.putI dX5_bringBack_61 fp_X5_18_4 (by first | rfl | exact gC0 (by assumption) | exact gL0 (by assumption)) rfl ?_
  refine Rn.aload_n dX5_bringBack_64 rfl rfl ?_
  refine Rn.dup dX5_bringBack_65 rfl ?_
  refine Rn.getI dX5_bringBack_66 fd_X5_26_4 (by first | rfl | exact gC0 (by assumption) | exact gL0 (by assumption)) rfl ?_
  refine Rn.topI (nI (s + 1)) (by rw [zup_at, upd_ne _ _ (by decide), c3 44 (by decide)]; exact h1) ?_
  refine Rn.iconst (v := (nI 1)) dX5_bringBack_69 rfl ?_
  refine Rn.isub dX5_bringBack_70 ?_
  refine Rn.topI (nI s) (by rw [← nI_1]; exact Int32.add_sub_cancel _ _) ?_
  refine Rn.putI dX5_bringBack_71 fp_X5_26_4 (by first | rfl | exact gC0 (by assumption) | exact gL0 (by assumption)) rfl ?_
  refine Rn.iconst (v := (nI 1)) dX5_bringBack_74 rfl ?_
  exact Rn.zret dX5_bringBack_75 rfl rfl (kk _ c1 c2 c3)
theorem bri_11 (I : Hi) (s : Nat) (hs : s < 12) (h1 : I 44 1 = nI (s + 1)) (h2 : I 44 2 = nI 11) (P : Option Value → Hi → Prop) (kk : ∀ L, (∀ j, j < 9 → L 3 j = I 90 j) → (∀ j, j < 72 → L 5 j = I 92 j) → (∀ a, ¬ (3 ≤ a ∧ a ≤ 6) → L a = I a) → P (some (.int (nI 1))) (zup (zup L 44 2 (nI 10)) 44 1 (nI s))) : Ct G GAM mX5_bringBack (d + 1) 0 [.ref 44, .ref 3] I (Rv P) := by
  refine Ct.mk [some (.ref 44), some (.ref 3), none] ?_
  refine Rn.aload_n dX5_bringBack_0 rfl rfl ?_
  refine Rn.getI dX5_bringBack_1 fd_X5_18_4 (by first | rfl | exact gC0 (by assumption) | exact gL0 (by assumption)) rfl ?_
  refine Rn.topI (nI 11) (by exact h2) ?_
  refine Rn.if_lt (tgt := 28) dX5_bringBack_4 (by decide) (fun h9 => absurd h9 (by decide)) (fun _ => ?_)
  refine Rn.aload_n dX5_bringBack_7 rfl rfl ?_
  refine Rn.getI dX5_bringBack_8 fd_X5_18_4 (by first | rfl | exact gC0 (by assumption) | exact gL0 (by assumption)) rfl ?_
  refine Rn.topI (nI 11) (by exact h2) ?_
  refine Rn.bipush (v := (nI 12)) dX5_bringBack_11 rfl ?_
  refine Rn.icmp_ge (tgt := 28) dX5_bringBack_13 (by decide) (fun h9 => absurd h9 (by decide)) (fun _ => ?_)
  refine Rn.aload_n dX5_bringBack_16 rfl rfl ?_
  refine Rn.getR dX5_bringBack_17 fd_X5_11_4 (by first | rfl | exact gC0 (by assumption) | exact gL0 (by assumption)) rfl ?_
  refine Rn.aload_n dX5_bringBack_20 rfl rfl ?_
  refine Rn.getI dX5_bringBack_21 fd_X5_18_4 (by first | rfl | exact gC0 (by assumption) | exact gL0 (by assumption)) rfl ?_
  refine Rn.topI (nI 11) (by exact h2) ?_
  refine Rn.aald (a := 45) (n := 12) (f := fM 12) (r := 90) dX5_bringBack_24 rfl (vp_in_nI (by decide) (by decide)) (by decide) ?_
  refine Rn.goto 29 dX5_bringBack_25 (by decide) ?_
  refine Rn.astore_n dX5_bringBack_29 rfl (by decide) ?_
  refine Rn.aload_n dX5_bringBack_30 rfl rfl ?_
  refine Rn.getI dX5_bringBack_31 fd_X5_26_4 (by first | rfl | exact gC0 (by assumption) | exact gL0 (by assumption)) rfl ?_
  refine Rn.topI (nI (s + 1)) (by exact h1) ?_
  refine Rn.if_leN dX5_bringBack_34 41 (fun h9 => by exfalso; omega) (fun _ => ?_)
  refine Rn.aload_n dX5_bringBack_37 rfl rfl ?_
  refine Rn.ifnonnull 43 dX5_bringBack_38 (by decide) ?_
  refine Rn.aload_n dX5_bringBack_43 rfl rfl ?_
  refine Rn.aload_n dX5_bringBack_44 rfl rfl ?_
  refine Rn.callV (As := [_]) dX5_bringBack_45 mv_X5_22 (by first | rfl | exact gC0 (by assumption) | exact gL0 (by assumption)) rfl rfl rfl (Nat.le_of_ble_eq_true rfl) (ct_cp90_3 G d I) (fun _ _ h => h) (fun v J h => ?_)
  obtain ⟨rfl, c1, c2, c3⟩ := h
  refine Rn.aload_n dX5_bringBack_48 rfl rfl ?_
  refine Rn.aload_n dX5_bringBack_49 rfl rfl ?_
  refine Rn.getI dX5_bringBack_50 fd_X5_18_4 (by first | rfl | exact gC0 (by assumption) | exact gL0 (by assumption)) rfl ?_
  refine Rn.topI (nI 11) (by rw [c3 44 (by decide)]; exact h2) ?_
  refine Rn.bipush (v := (nI 12)) dX5_bringBack_53 rfl ?_
  refine Rn.iadd dX5_bringBack_55 ?_
  refine Rn.iconst (v := (nI 1)) dX5_bringBack_56 rfl ?_
  refine Rn.isub dX5_bringBack_57 ?_
  refine Rn.bipush (v := (nI 12)) dX5_bringBack_58 rfl ?_
  refine Rn.irem dX5_bringBack_60 (by decide) ?_
  refine Rn.topI (nI 10) (by decide) ?_
  refine Rn.putI dX5_bringBack_61 fp_X5_18_4 (by first | rfl | exact gC0 (by assumption) | exact gL0 (by assumption)) rfl ?_
  refine Rn.aload_n dX5_bringBack_64 rfl rfl ?_
  refine Rn.dup dX5_bringBack_65 rfl ?_
  refine Rn.getI dX5_bringBack_66 fd_X5_26_4 (by first | rfl | exact gC0 (by assumption) | exact gL0 (by assumption)) rfl ?_
  refine Rn.topI (nI (s + 1)) (by rw [zup_at, upd_ne _ _ (by decide), c3 44 (by decide)]; exact h1) ?_
  refine Rn.iconst (v := (nI 1)) dX5_bringBack_69 rfl ?_
  refine Rn.isub dX5_bringBack_70 ?_
  refine Rn.topI (nI s) (by rw [← nI_1]; exact Int32.add_sub_cancel _ _) ?_
  refine Rn.putI dX5_bringBack_71 fp_X5_26_4 (by first | rfl | exact gC0 (by assumption) | exact gL0 (by assumption)) rfl ?_
  refine Rn.iconst (v := (nI 1)) dX5_bringBack_74 rfl ?_
  exact Rn.zret dX5_bringBack_75 rfl rfl (kk _ c1 c2 c3)
theorem bri0_0 (I : Hi) (h1 : I 44 1 = nI 0) (h2 : I 44 2 = nI 0) (P : Option Value → Hi → Prop) (kk : P (some (.int (nI 0))) I) : Ct G GAM mX5_bringBack (d + 1) 0 [.ref 44, .ref 3] I (Rv P) := by
  refine Ct.mk [some (.ref 44), some (.ref 3), none] ?_
  refine Rn.aload_n dX5_bringBack_0 rfl rfl ?_
  refine Rn.getI dX5_bringBack_1 fd_X5_18_4 (by first | rfl | exact gC0 (by assumption) | exact gL0 (by assumption)) rfl ?_
  refine Rn.topI (nI 0) (by exact h2) ?_
  refine Rn.if_lt (tgt := 28) dX5_bringBack_4 (by decide) (fun h9 => absurd h9 (by decide)) (fun _ => ?_)
  refine Rn.aload_n dX5_bringBack_7 rfl rfl ?_
  refine Rn.getI dX5_bringBack_8 fd_X5_18_4 (by first | rfl | exact gC0 (by assumption) | exact gL0 (by assumption)) rfl ?_
  refine Rn.topI (nI 0) (by exact h2) ?_
  refine Rn.bipush (v := (nI 12)) dX5_bringBack_11 rfl ?_
  refine Rn.icmp_ge (tgt := 28) dX5_bringBack_13 (by decide) (fun h9 => absurd h9 (by decide)) (fun _ => ?_)
  refine Rn.aload_n dX5_bringBack_16 rfl rfl ?_
  refine Rn.getR dX5_bringBack_17 fd_X5_11_4 (by first | rfl | exact gC0 (by assumption) | exact gL0 (by assumption)) rfl ?_
  refine Rn.aload_n dX5_bringBack_20 rfl rfl ?_
  refine Rn.getI dX5_bringBack_21 fd_X5_18_4 (by first | rfl | exact gC0 (by assumption) | exact gL0 (by assumption)) rfl ?_
  refine Rn.topI (nI 0) (by exact h2) ?_
  refine Rn.aald (a := 45) (n := 12) (f := fM 12) (r := 46) dX5_bringBack_24 rfl (vp_in_nI (by decide) (by decide)) (by decide) ?_
  refine Rn.goto 29 dX5_bringBack_25 (by decide) ?_
  refine Rn.astore_n dX5_bringBack_29 rfl (by decide) ?_
  refine Rn.aload_n dX5_bringBack_30 rfl rfl ?_
  refine Rn.getI dX5_bringBack_31 fd_X5_26_4 (by first | rfl | exact gC0 (by assumption) | exact gL0 (by assumption)) rfl ?_
  refine Rn.topI (nI 0) (by exact h1) ?_
  refine Rn.if_le (tgt := 41) dX5_bringBack_34 (by decide) (fun _ => ?_) (fun h9 => absurd h9 (by decide))
  refine Rn.iconst (v := (nI 0)) dX5_bringBack_41 rfl ?_
  exact Rn.zret dX5_bringBack_42 rfl rfl (kk)
theorem bri0_1 (I : Hi) (h1 : I 44 1 = nI 0) (h2 : I 44 2 = nI 1) (P : Option Value → Hi → Prop) (kk : P (some (.int (nI 0))) I) : Ct G GAM mX5_bringBack (d + 1) 0 [.ref 44, .ref 3] I (Rv P) := by
  refine Ct.mk [some (.ref 44), some (.ref 3), none] ?_
  refine Rn.aload_n dX5_bringBack_0 rfl rfl ?_
  refine Rn.getI dX5_bringBack_1 fd_X5_18_4 (by first | rfl | exact gC0 (by assumption) | exact gL0 (by assumption)) rfl ?_
  refine Rn.topI (nI 1) (by exact h2) ?_
  refine Rn.if_lt (tgt := 28) dX5_bringBack_4 (by decide) (fun h9 => absurd h9 (by decide)) (fun _ => ?_)
  refine Rn.aload_n dX5_bringBack_7 rfl rfl ?_
  refine Rn.getI dX5_bringBack_8 fd_X5_18_4 (by first | rfl | exact gC0 (by assumption) | exact gL0 (by assumption)) rfl ?_
  refine Rn.topI (nI 1) (by exact h2) ?_
  refine Rn.bipush (v := (nI 12)) dX5_bringBack_11 rfl ?_
  refine Rn.icmp_ge (tgt := 28) dX5_bringBack_13 (by decide) (fun h9 => absurd h9 (by decide)) (fun _ => ?_)
  refine Rn.aload_n dX5_bringBack_16 rfl rfl ?_
  refine Rn.getR dX5_bringBack_17 fd_X5_11_4 (by first | rfl | exact gC0 (by assumption) | exact gL0 (by assumption)) rfl ?_
  refine Rn.aload_n dX5_bringBack_20 rfl rfl ?_
  refine Rn.getI dX5_bringBack_21 fd_X5_18_4 (by first | rfl | exact gC0 (by assumption) | exact gL0 (by assumption)) rfl ?_
  refine Rn.topI (nI 1) (by exact h2) ?_
  refine Rn.aald (a := 45) (n := 12) (f := fM 12) (r := 50) dX5_bringBack_24 rfl (vp_in_nI (by decide) (by decide)) (by decide) ?_
  refine Rn.goto 29 dX5_bringBack_25 (by decide) ?_
  refine Rn.astore_n dX5_bringBack_29 rfl (by decide) ?_
  refine Rn.aload_n dX5_bringBack_30 rfl rfl ?_
  refine Rn.getI dX5_bringBack_31 fd_X5_26_4 (by first | rfl | exact gC0 (by assumption) | exact gL0 (by assumption)) rfl ?_
  refine Rn.topI (nI 0) (by exact h1) ?_
  refine Rn.if_le (tgt := 41) dX5_bringBack_34 (by decide) (fun _ => ?_) (fun h9 => absurd h9 (by decide))
  refine Rn.iconst (v := (nI 0)) dX5_bringBack_41 rfl ?_
  exact Rn.zret dX5_bringBack_42 rfl rfl (kk)
theorem bri0_2 (I : Hi) (h1 : I 44 1 = nI 0) (h2 : I 44 2 = nI 2) (P : Option Value → Hi → Prop) (kk : P (some (.int (nI 0))) I) : Ct G GAM mX5_bringBack (d + 1) 0 [.ref 44, .ref 3] I (Rv P) := by
  refine Ct.mk [some (.ref 44), some (.ref 3), none] ?_
  refine Rn.aload_n dX5_bringBack_0 rfl rfl ?_
  refine Rn.getI dX5_bringBack_1 fd_X5_18_4 (by first | rfl | exact gC0 (by assumption) | exact gL0 (by assumption)) rfl ?_
  refine Rn.topI (nI 2) (by exact h2) ?_
  refine Rn.if_lt (tgt := 28) dX5_bringBack_4 (by decide) (fun h9 => absurd h9 (by decide)) (fun _ => ?_)
  refine Rn.aload_n dX5_bringBack_7 rfl rfl ?_
  refine Rn.getI dX5_bringBack_8 fd_X5_18_4 (by first | rfl | exact gC0 (by assumption) | exact gL0 (by assumption)) rfl ?_
  refine Rn.topI (nI 2) (by exact h2) ?_
  refine Rn.bipush (v := (nI 12)) dX5_bringBack_11 rfl ?_
  refine Rn.icmp_ge (tgt := 28) dX5_bringBack_13 (by decide) (fun h9 => absurd h9 (by decide)) (fun _ => ?_)
  refine Rn.aload_n dX5_bringBack_16 rfl rfl ?_
  refine Rn.getR dX5_bringBack_17 fd_X5_11_4 (by first | rfl | exact gC0 (by assumption) | exact gL0 (by assumption)) rfl ?_
  refine Rn.aload_n dX5_bringBack_20 rfl rfl ?_
  refine Rn.getI dX5_bringBack_21 fd_X5_18_4 (by first | rfl | exact gC0 (by assumption) | exact gL0 (by assumption)) rfl ?_
  refine Rn.topI (nI 2) (by exact h2) ?_
  refine Rn.aald (a := 45) (n := 12) (f := fM 12) (r := 54) dX5_bringBack_24 rfl (vp_in_nI (by decide) (by decide)) (by decide) ?_
  refine Rn.goto 29 dX5_bringBack_25 (by decide) ?_
  refine Rn.astore_n dX5_bringBack_29 rfl (by decide) ?_
  refine Rn.aload_n dX5_bringBack_30 rfl rfl ?_
  refine Rn.getI dX5_bringBack_31 fd_X5_26_4 (by first | rfl | exact gC0 (by assumption) | exact gL0 (by assumption)) rfl ?_
  refine Rn.topI (nI 0) (by exact h1) ?_
  refine Rn.if_le (tgt := 41) dX5_bringBack_34 (by decide) (fun _ => ?_) (fun h9 => absurd h9 (by decide))
  refine Rn.iconst (v := (nI 0)) dX5_bringBack_41 rfl ?_
  exact Rn.zret dX5_bringBack_42 rfl rfl (kk)
theorem bri0_3 (I : Hi) (h1 : I 44 1 = nI 0) (h2 : I 44 2 = nI 3) (P : Option Value → Hi → Prop) (kk : P (some (.int (nI 0))) I) : Ct G GAM mX5_bringBack (d + 1) 0 [.ref 44, .ref 3] I (Rv P) := by
  refine Ct.mk [some (.ref 44), some (.ref 3), none] ?_
  refine Rn.aload_n dX5_bringBack_0 rfl rfl ?_
  refine Rn.getI dX5_bringBack_1 fd_X5_18_4 (by first | rfl | exact gC0 (by assumption) | exact gL0 (by assumption)) rfl ?_
  refine Rn.topI (nI 3) (by exact h2) ?_
  refine Rn.if_lt (tgt := 28) dX5_bringBack_4 (by decide) (fun h9 => absurd h9 (by decide)) (fun _ => ?_)
  refine Rn.aload_n dX5_bringBack_7 rfl rfl ?_
  refine Rn.getI dX5_bringBack_8 fd_X5_18_4 (by first | rfl | exact gC0 (by assumption) | exact gL0 (by assumption)) rfl ?_
  refine Rn.topI (nI 3) (by exact h2) ?_
  refine Rn.bipush (v := (nI 12)) dX5_bringBack_11 rfl ?_
  refine Rn.icmp_ge (tgt := 28) dX5_bringBack_13 (by decide) (fun h9 => absurd h9 (by decide)) (fun _ => ?_)
  refine Rn.aload_n dX5_bringBack_16 rfl rfl ?_
  refine Rn.getR dX5_bringBack_17 fd_X5_11_4 (by first | rfl | exact gC0 (by assumption) | exact gL0 (by assumption)) rfl ?_
  refine Rn.aload_n dX5_bringBack_20 rfl rfl ?_
  refine Rn.getI dX5_bringBack_21 fd_X5_18_4 (by first | rfl | exact gC0 (by assumption) | exact gL0 (by assumption)) rfl ?_
  refine Rn.topI (nI 3) (by exact h2) ?_
  refine Rn.aald (a := 45) (n := 12) (f := fM 12) (r := 58) dX5_bringBack_24 rfl (vp_in_nI (by decide) (by decide)) (by decide) ?_
  refine Rn.goto 29 dX5_bringBack_25 (by decide) ?_
  refine Rn.astore_n dX5_bringBack_29 rfl (by decide) ?_
  refine Rn.aload_n dX5_bringBack_30 rfl rfl ?_
  refine Rn.getI dX5_bringBack_31 fd_X5_26_4 (by first | rfl | exact gC0 (by assumption) | exact gL0 (by assumption)) rfl ?_
  refine Rn.topI (nI 0) (by exact h1) ?_
  refine Rn.if_le (tgt := 41) dX5_bringBack_34 (by decide) (fun _ => ?_) (fun h9 => absurd h9 (by decide))
  refine Rn.iconst (v := (nI 0)) dX5_bringBack_41 rfl ?_
  exact Rn.zret dX5_bringBack_42 rfl rfl (kk)
theorem bri0_4 (I : Hi) (h1 : I 44 1 = nI 0) (h2 : I 44 2 = nI 4) (P : Option Value → Hi → Prop) (kk : P (some (.int (nI 0))) I) : Ct G GAM mX5_bringBack (d + 1) 0 [.ref 44, .ref 3] I (Rv P) := by
  refine Ct.mk [some (.ref 44), some (.ref 3), none] ?_
  refine Rn.aload_n dX5_bringBack_0 rfl rfl ?_
  refine Rn.getI dX5_bringBack_1 fd_X5_18_4 (by first | rfl | exact gC0 (by assumption) | exact gL0 (by assumption)) rfl ?_
  refine Rn.topI (nI 4) (by exact h2) ?_
  refine Rn.if_lt (tgt := 28) dX5_bringBack_4 (by decide) (fun h9 => absurd h9 (by decide)) (fun _ => ?_)
  refine Rn.aload_n dX5_bringBack_7 rfl rfl ?_
  refine Rn.getI dX5_bringBack_8 fd_X5_18_4 (by first | rfl | exact gC0 (by assumption) | exact gL0 (by assumption)) rfl ?_
  refine Rn.topI (nI 4) (by exact h2) ?_
  refine Rn.bipush (v := (nI 12)) dX5_bringBack_11 rfl ?_
  refine Rn.icmp_ge (tgt := 28) dX5_bringBack_13 (by decide) (fun h9 => absurd h9 (by decide)) (fun _ => ?_)
  refine Rn.aload_n dX5_bringBack_16 rfl rfl ?_
  refine Rn.getR dX5_bringBack_17 fd_X5_11_4 (by first | rfl | exact gC0 (by assumption) | exact gL0 (by assumption)) rfl ?_
  refine Rn.aload_n dX5_bringBack_20 rfl rfl ?_
  refine Rn.getI dX5_bringBack_21 fd_X5_18_4 (by first | rfl | exact gC0 (by assumption) | exact gL0 (by assumption)) rfl ?_
  refine Rn.topI (nI 4) (by exact h2) ?_
  refine Rn.aald (a := 45) (n := 12) (f := fM 12) (r := 62) dX5_bringBack_24 rfl (vp_in_nI (by decide) (by decide)) (by decide) ?_
  refine Rn.goto 29 dX5_bringBack_25 (by decide) ?_
  refine Rn.astore_n dX5_bringBack_29 rfl (by decide) ?_
  refine Rn.aload_n dX5_bringBack_30 rfl rfl ?_
  refine Rn.getI dX5_bringBack_31 fd_X5_26_4 (by first | rfl | exact gC0 (by assumption) | exact gL0 (by assumption)) rfl ?_
  refine Rn.topI (nI 0) (by exact h1) ?_
  refine Rn.if_le (tgt := 41) dX5_bringBack_34 (by decide) (fun _ => ?_) (fun h9 => absurd h9 (by decide))
  refine Rn.iconst (v := (nI 0)) dX5_bringBack_41 rfl ?_
  exact Rn.zret dX5_bringBack_42 rfl rfl (kk)
theorem bri0_5 (I : Hi) (h1 : I 44 1 = nI 0) (h2 : I 44 2 = nI 5) (P : Option Value → Hi → Prop) (kk : P (some (.int (nI 0))) I) : Ct G GAM mX5_bringBack (d + 1) 0 [.ref 44, .ref 3] I (Rv P) := by
  refine Ct.mk [some (.ref 44), some (.ref 3), none] ?_
  refine Rn.aload_n dX5_bringBack_0 rfl rfl ?_
  refine Rn.getI dX5_bringBack_1 fd_X5_18_4 (by first | rfl | exact gC0 (by assumption) | exact gL0 (by assumption)) rfl ?_
  refine Rn.topI (nI 5) (by exact h2) ?_
  refine Rn.if_lt (tgt := 28) dX5_bringBack_4 (by decide) (fun h9 => absurd h9 (by decide)) (fun _ => ?_)
  refine Rn.aload_n dX5_bringBack_7 rfl rfl ?_
  refine Rn.getI dX5_bringBack_8 fd_X5_18_4 (by first | rfl | exact gC0 (by assumption) | exact gL0 (by assumption)) rfl ?_
  refine Rn.topI (nI 5) (by exact h2) ?_
  refine Rn.bipush (v := (nI 12)) dX5_bringBack_11 rfl ?_
  refine Rn.icmp_ge (tgt := 28) dX5_bringBack_13 (by decide) (fun h9 => absurd h9 (by decide)) (fun _ => ?_)
  refine Rn.aload_n dX5_bringBack_16 rfl rfl ?_
  refine Rn.getR dX5_bringBack_17 fd_X5_11_4 (by first | rfl | exact gC0 (by assumption) | exact gL0 (by assumption)) rfl ?_
  refine Rn.aload_n dX5_bringBack_20 rfl rfl ?_
  refine Rn.getI dX5_bringBack_21 fd_X5_18_4 (by first | rfl | exact gC0 (by assumption) | exact gL0 (by assumption)) rfl ?_
  refine Rn.topI (nI 5) (by exact h2) ?_
  refine Rn.aald (a := 45) (n := 12) (f := fM 12) (r := 66) dX5_bringBack_24 rfl (vp_in_nI (by decide) (by decide)) (by decide) ?_
  refine Rn.goto 29 dX5_bringBack_25 (by decide) ?_
  refine Rn.astore_n dX5_bringBack_29 rfl (by decide) ?_
  refine Rn.aload_n dX5_bringBack_30 rfl rfl ?_
  refine Rn.getI dX5_bringBack_31 fd_X5_26_4 (by first | rfl | exact gC0 (by assumption) | exact gL0 (by assumption)) rfl ?_
  refine Rn.topI (nI 0) (by exact h1) ?_
  refine Rn.if_le (tgt := 41) dX5_bringBack_34 (by decide) (fun _ => ?_) (fun h9 => absurd h9 (by decide))
  refine Rn.iconst (v := (nI 0)) dX5_bringBack_41 rfl ?_
  exact Rn.zret dX5_bringBack_42 rfl rfl (kk)
theorem bri0_6 (I : Hi) (h1 : I 44 1 = nI 0) (h2 : I 44 2 = nI 6) (P : Option Value → Hi → Prop) (kk : P (some (.int (nI 0))) I) : Ct G GAM mX5_bringBack (d + 1) 0 [.ref 44, .ref 3] I (Rv P) := by
  refine Ct.mk [some (.ref 44), some (.ref 3), none] ?_
  refine Rn.aload_n dX5_bringBack_0 rfl rfl ?_
  refine Rn.getI dX5_bringBack_1 fd_X5_18_4 (by first | rfl | exact gC0 (by assumption) | exact gL0 (by assumption)) rfl ?_
  refine Rn.topI (nI 6) (by exact h2) ?_
  refine Rn.if_lt (tgt := 28) dX5_bringBack_4 (by decide) (fun h9 => absurd h9 (by decide)) (fun _ => ?_)
  refine Rn.aload_n dX5_bringBack_7 rfl rfl ?_
  refine Rn.getI dX5_bringBack_8 fd_X5_18_4 (by first | rfl | exact gC0 (by assumption) | exact gL0 (by assumption)) rfl ?_
  refine Rn.topI (nI 6) (by exact h2) ?_
  refine Rn.bipush (v := (nI 12)) dX5_bringBack_11 rfl ?_
  refine Rn.icmp_ge (tgt := 28) dX5_bringBack_13 (by decide) (fun h9 => absurd h9 (by decide)) (fun _ => ?_)
  refine Rn.aload_n dX5_bringBack_16 rfl rfl ?_
  refine Rn.getR dX5_bringBack_17 fd_X5_11_4 (by first | rfl | exact gC0 (by assumption) | exact gL0 (by assumption)) rfl ?_
  refine Rn.aload_n dX5_bringBack_20 rfl rfl ?_
  refine Rn.getI dX5_bringBack_21 fd_X5_18_4 (by first | rfl | exact gC0 (by assumption) | exact gL0 (by assumption)) rfl ?_
  refine Rn.topI (nI 6) (by exact h2) ?_
  refine Rn.aald (a := 45) (n := 12) (f := fM 12) (r := 70) dX5_bringBack_24 rfl (vp_in_nI (by decide) (by decide)) (by decide) ?_
  refine Rn.goto 29 dX5_bringBack_25 (by decide) ?_
  refine Rn.astore_n dX5_bringBack_29 rfl (by decide) ?_
  refine Rn.aload_n dX5_bringBack_30 rfl rfl ?_
  refine Rn.getI dX5_bringBack_31 fd_X5_26_4 (by first | rfl | exact gC0 (by assumption) | exact gL0 (by assumption)) rfl ?_
  refine Rn.topI (nI 0) (by exact h1) ?_
  refine Rn.if_le (tgt := 41) dX5_bringBack_34 (by decide) (fun _ => ?_) (fun h9 => absurd h9 (by decide))
  refine Rn.iconst (v := (nI 0)) dX5_bringBack_41 rfl ?_
  exact Rn.zret dX5_bringBack_42 rfl rfl (kk)
theorem bri0_7 (I : Hi) (h1 : I 44 1 = nI 0) (h2 : I 44 2 = nI 7) (P : Option Value → Hi → Prop) (kk : P (some (.int (nI 0))) I) : Ct G GAM mX5_bringBack (d + 1) 0 [.ref 44, .ref 3] I (Rv P) := by
  refine Ct.mk [some (.ref 44), some (.ref 3), none] ?_
  refine Rn.aload_n dX5_bringBack_0 rfl rfl ?_
  refine Rn.getI dX5_bringBack_1 fd_X5_18_4 (by first | rfl | exact gC0 (by assumption) | exact gL0 (by assumption)) rfl ?_
  refine Rn.topI (nI 7) (by exact h2) ?_
  refine Rn.if_lt (tgt := 28) dX5_bringBack_4 (by decide) (fun h9 => absurd h9 (by decide)) (fun _ => ?_)
  refine Rn.aload_n dX5_bringBack_7 rfl rfl ?_
  refine Rn.getI dX5_bringBack_8 fd_X5_18_4 (by first | rfl | exact gC0 (by assumption) | exact gL0 (by assumption)) rfl ?_
  refine Rn.topI (nI 7) (by exact h2) ?_
  refine Rn.bipush (v := (nI 12)) dX5_bringBack_11 rfl ?_
  refine Rn.icmp_ge (tgt := 28) dX5_bringBack_13 (by decide) (fun h9 => absurd h9 (by decide)) (fun _ => ?_)
  refine Rn.aload_n dX5_bringBack_16 rfl rfl ?_
  refine Rn.getR dX5_bringBack_17 fd_X5_11_4 (by first | rfl | exact gC0 (by assumption) | exact gL0 (by assumption)) rfl ?_
  refine Rn.aload_n dX5_bringBack_20 rfl rfl ?_
  refine Rn.getI dX5_bringBack_21 fd_X5_18_4 (by first | rfl | exact gC0 (by assumption) | exact gL0 (by assumption)) rfl ?_
  refine Rn.topI (nI 7) (by exact h2) ?_
  refine Rn.aald (a := 45) (n := 12) (f := fM 12) (r := 74) dX5_bringBack_24 rfl (vp_in_nI (by decide) (by decide)) (by decide) ?_
  refine Rn.goto 29 dX5_bringBack_25 (by decide) ?_
  refine Rn.astore_n dX5_bringBack_29 rfl (by decide) ?_
  refine Rn.aload_n dX5_bringBack_30 rfl rfl ?_
  refine Rn.getI dX5_bringBack_31 fd_X5_26_4 (by first | rfl | exact gC0 (by assumption) | exact gL0 (by assumption)) rfl ?_
  refine Rn.topI (nI 0) (by exact h1) ?_
  refine Rn.if_le (tgt := 41) dX5_bringBack_34 (by decide) (fun _ => ?_) (fun h9 => absurd h9 (by decide))
  refine Rn.iconst (v := (nI 0)) dX5_bringBack_41 rfl ?_
  exact Rn.zret dX5_bringBack_42 rfl rfl (kk)
theorem bri0_8 (I : Hi) (h1 : I 44 1 = nI 0) (h2 : I 44 2 = nI 8) (P : Option Value → Hi → Prop) (kk : P (some (.int (nI 0))) I) : Ct G GAM mX5_bringBack (d + 1) 0 [.ref 44, .ref 3] I (Rv P) := by
  refine Ct.mk [some (.ref 44), some (.ref 3), none] ?_
  refine Rn.aload_n dX5_bringBack_0 rfl rfl ?_
  refine Rn.getI dX5_bringBack_1 fd_X5_18_4 (by first | rfl | exact gC0 (by assumption) | exact gL0 (by assumption)) rfl ?_
  refine Rn.topI (nI 8) (by exact h2) ?_
  refine Rn.if_lt (tgt := 28) dX5_bringBack_4 (by decide) (fun h9 => absurd h9 (by decide)) (fun _ => ?_)
  refine Rn.aload_n dX5_bringBack_7 rfl rfl ?_
  refine Rn.getI dX5_bringBack_8 fd_X5_18_4 (by first | rfl | exact gC0 (by assumption) | exact gL0 (by assumption)) rfl ?_
  refine Rn.topI (nI 8) (by exact h2) ?_
  refine Rn.bipush (v := (nI 12)) dX5_bringBack_11 rfl ?_
  refine Rn.icmp_ge (tgt := 28) dX5_bringBack_13 (by decide) (fun h9 => absurd h9 (by decide)) (fun _ => ?_)
  refine Rn.aload_n dX5_bringBack_16 rfl rfl ?_
  refine Rn.getR dX5_bringBack_17 fd_X5_11_4 (by first | rfl | exact gC0 (by assumption) | exact gL0 (by assumption)) rfl ?_
  refine Rn.aload_n dX5_bringBack_20 rfl rfl ?_
  refine Rn.getI dX5_bringBack_21 fd_X5_18_4 (by first | rfl | exact gC0 (by assumption) | exact gL0 (by assumption)) rfl ?_
  refine Rn.topI (nI 8) (by exact h2) ?_
  refine Rn.aald (a := 45) (n := 12) (f := fM 12) (r := 78) dX5_bringBack_24 rfl (vp_in_nI (by decide) (by decide)) (by decide) ?_
  refine Rn.goto 29 dX5_bringBack_25 (by decide) ?_
  refine Rn.astore_n dX5_bringBack_29 rfl (by decide) ?_
  refine Rn.aload_n dX5_bringBack_30 rfl rfl ?_
  refine Rn.getI dX5_bringBack_31 fd_X5_26_4 (by first | rfl | exact gC0 (by assumption) | exact gL0 (by assumption)) rfl ?_
  refine Rn.topI (nI 0) (by exact h1) ?_
  refine Rn.if_le (tgt := 41) dX5_bringBack_34 (by decide) (fun _ => ?_) (fun h9 => absurd h9 (by decide))
  refine Rn.iconst (v := (nI 0)) dX5_bringBack_41 rfl ?_
  exact Rn.zret dX5_bringBack_42 rfl rfl (kk)
theorem bri0_9 (I : Hi) (h1 : I 44 1 = nI 0) (h2 : I 44 2 = nI 9) (P : Option Value → Hi → Prop) (kk : P (some (.int (nI 0))) I) : Ct G GAM mX5_bringBack (d + 1) 0 [.ref 44, .ref 3] I (Rv P) := by
  refine Ct.mk [some (.ref 44), some (.ref 3), none] ?_
  refine Rn.aload_n dX5_bringBack_0 rfl rfl ?_
  refine Rn.getI dX5_bringBack_1 fd_X5_18_4 (by first | rfl | exact gC0 (by assumption) | exact gL0 (by assumption)) rfl ?_
  refine Rn.topI (nI 9) (by exact h2) ?_
  refine Rn.if_lt (tgt := 28) dX5_bringBack_4 (by decide) (fun h9 => absurd h9 (by decide)) (fun _ => ?_)
  refine Rn.aload_n dX5_bringBack_7 rfl rfl ?_
  refine Rn.getI dX5_bringBack_8 fd_X5_18_4 (by first | rfl | exact gC0 (by assumption) | exact gL0 (by assumption)) rfl ?_
  refine Rn.topI (nI 9) (by exact h2) ?_
  refine Rn.bipush (v := (nI 12)) dX5_bringBack_11 rfl ?_
  refine Rn.icmp_ge (tgt := 28) dX5_bringBack_13 (by decide) (fun h9 => absurd h9 (by decide)) (fun _ => ?_)
  refine Rn.aload_n dX5_bringBack_16 rfl rfl ?_
  refine Rn.getR dX5_bringBack_17 fd_X5_11_4 (by first | rfl | exact gC0 (by assumption) | exact gL0 (by assumption)) rfl ?_
  refine Rn.aload_n dX5_bringBack_20 rfl rfl ?_
  refine Rn.getI dX5_bringBack_21 fd_X5_18_4 (by first | rfl | exact gC0 (by assumption) | exact gL0 (by assumption)) rfl ?_
  refine Rn.topI (nI 9) (by exact h2) ?_
  refine Rn.aald (a := 45) (n := 12) (f := fM 12) (r := 82) dX5_bringBack_24 rfl (vp_in_nI (by decide) (by decide)) (by decide) ?_
  refine Rn.goto 29 dX5_bringBack_25 (by decide) ?_
  refine Rn.astore_n dX5_bringBack_29 rfl (by decide) ?_
  refine Rn.aload_n dX5_bringBack_30 rfl rfl ?_
  refine Rn.getI dX5_bringBack_31 fd_X5_26_4 (by first | rfl | exact gC0 (by assumption) | exact gL0 (by assumption)) rfl ?_
  refine Rn.topI (nI 0) (by exact h1) ?_
  refine Rn.if_le (tgt := 41) dX5_bringBack_34 (by decide) (fun _ => ?_) (fun h9 => absurd h9 (by decide))
  refine Rn.iconst (v := (nI 0)) dX5_bringBack_41 rfl ?_
  exact Rn.zret dX5_bringBack_42 rfl rfl (kk)
theorem bri0_10 (I : Hi) (h1 : I 44 1 = nI 0) (h2 : I 44 2 = nI 10) (P : Option Value → Hi → Prop) (kk : P (some (.int (nI 0))) I) : Ct G GAM mX5_bringBack (d + 1) 0 [.ref 44, .ref 3] I (Rv P) := by
  refine Ct.mk [some (.ref 44), some (.ref 3), none] ?_
  refine Rn.aload_n dX5_bringBack_0 rfl rfl ?_
  refine Rn.getI dX5_bringBack_1 fd_X5_18_4 (by first | rfl | exact gC0 (by assumption) | exact gL0 (by assumption)) rfl ?_
  refine Rn.topI (nI 10) (by exact h2) ?_
  refine Rn.if_lt (tgt := 28) dX5_bringBack_4 (by decide) (fun h9 => absurd h9 (by decide)) (fun _ => ?_)
  refine Rn.aload_n dX5_bringBack_7 rfl rfl ?_
  refine Rn.getI dX5_bringBack_8 fd_X5_18_4 (by first | rfl | exact gC0 (by assumption) | exact gL0 (by assumption)) rfl ?_
  refine Rn.topI (nI 10) (by exact h2) ?_
  refine Rn.bipush (v := (nI 12)) dX5_bringBack_11 rfl ?_
  refine Rn.icmp_ge (tgt := 28) dX5_bringBack_13 (by decide) (fun h9 => absurd h9 (by decide)) (fun _ => ?_)
  refine Rn.aload_n dX5_bringBack_16 rfl rfl ?_
  refine Rn.getR dX5_bringBack_17 fd_X5_11_4 (by first | rfl | exact gC0 (by assumption) | exact gL0 (by assumption)) rfl ?_
  refine Rn.aload_n dX5_bringBack_20 rfl rfl ?_
  refine Rn.getI dX5_bringBack_21 fd_X5_18_4 (by first | rfl | exact gC0 (by assumption) | exact gL0 (by assumption)) rfl ?_
  refine Rn.topI (nI 10) (by exact h2) ?_
  refine Rn.aald (a := 45) (n := 12) (f := fM 12) (r := 86) dX5_bringBack_24 rfl (vp_in_nI (by decide) (by decide)) (by decide) ?_
  refine Rn.goto 29 dX5_bringBack_25 (by decide) ?_
  refine Rn.astore_n dX5_bringBack_29 rfl (by decide) ?_
  refine Rn.aload_n dX5_bringBack_30 rfl rfl ?_
  refine Rn.getI dX5_bringBack_31 fd_X5_26_4 (by first | rfl | exact gC0 (by assumption) | exact gL0 (by assumption)) rfl ?_
  refine Rn.topI (nI 0) (by exact h1) ?_
  refine Rn.if_le (tgt := 41) dX5_bringBack_34 (by decide) (fun _ => ?_) (fun h9 => absurd h9 (by decide))
  refine Rn.iconst (v := (nI 0)) dX5_bringBack_41 rfl ?_
  exact Rn.zret dX5_bringBack_42 rfl rfl (kk)
theorem bri0_11 (I : Hi) (h1 : I 44 1 = nI 0) (h2 : I 44 2 = nI 11) (P : Option Value → Hi → Prop) (kk : P (some (.int (nI 0))) I) : Ct G GAM mX5_bringBack (d + 1) 0 [.ref 44, .ref 3] I (Rv P) := by
  refine Ct.mk [some (.ref 44), some (.ref 3), none] ?_
  refine Rn.aload_n dX5_bringBack_0 rfl rfl ?_
  refine Rn.getI dX5_bringBack_1 fd_X5_18_4 (by first | rfl | exact gC0 (by assumption) | exact gL0 (by assumption)) rfl ?_
  refine Rn.topI (nI 11) (by exact h2) ?_
  refine Rn.if_lt (tgt := 28) dX5_bringBack_4 (by decide) (fun h9 => absurd h9 (by decide)) (fun _ => ?_)
  refine Rn.aload_n dX5_bringBack_7 rfl rfl ?_
  refine Rn.getI dX5_bringBack_8 fd_X5_18_4 (by first | rfl | exact gC0 (by assumption) | exact gL0 (by assumption)) rfl ?_
  refine Rn.topI (nI 11) (by exact h2) ?_
  refine Rn.bipush (v := (nI 12)) dX5_bringBack_11 rfl ?_
  refine Rn.icmp_ge (tgt := 28) dX5_bringBack_13 (by decide) (fun h9 => absurd h9 (by decide)) (fun _ => ?_)
  refine Rn.aload_n dX5_bringBack_16 rfl rfl ?_
  refine Rn.getR dX5_bringBack_17 fd_X5_11_4 (by first | rfl | exact gC0 (by assumption) | exact gL0 (by assumption)) rfl ?_
  refine Rn.aload_n dX5_bringBack_20 rfl rfl ?_
  refine Rn.getI dX5_bringBack_21 fd_X5_18_4 (by first | rfl | exact gC0 (by assumption) | exact gL0 (by assumption)) rfl ?_
  refine Rn.topI (nI 11) (by exact h2) ?_
  refine Rn.aald (a := 45) (n := 12) (f := fM 12) (r := 90) dX5_bringBack_24 rfl (vp_in_nI (by decide) (by decide)) (by decide) ?_
  refine Rn.goto 29 dX5_bringBack_25 (by decide) ?_
  refine Rn.astore_n dX5_bringBack_29 rfl (by decide) ?_
  refine Rn.aload_n dX5_bringBack_30 rfl rfl ?_
  refine Rn.getI dX5_bringBack_31 fd_X5_26_4 (by first | rfl | exact gC0 (by assumption) | exact gL0 (by assumption)) rfl ?_
  refine Rn.topI (nI 0) (by exact h1) ?_
  refine Rn.if_le (tgt := 41) dX5_bringBack_34 (by decide) (fun _ => ?_) (fun h9 => absurd h9 (by decide))
  refine Rn.iconst (v := (nI 0)) dX5_bringBack_41 rfl ?_
  exact Rn.zret dX5_bringBack_42 rfl rfl (kk)
/-- what undo leaves: the women, things, texts and blue ones are as they were -/
def UQ (I : Hi) (v : Option Value) (J : Hi) : Prop := (∃ x, v = some (.int x) ∧ inIv (0, 1) x) ∧ MC J ∧ (∀ i, i < 3 → J 3 i = I 3 i) ∧ (∀ i, i < 8 → J 5 (9 * i + 8) = I 5 (9 * i + 8)) ∧ ∀ a, ¬ (3 ≤ a ∧ a ≤ 6) → a ≠ 44 → J a = I a
theorem ct_bring (I : Hi) (h : MC I) : Ct G GAM mX5_bringBack (d + 1) 0 [.ref 44, .ref 3] I (Rv (UQ I)) := by
  have hMC := h
  obtain ⟨n, s, hn, hs, h2, h1, hk⟩ := h
  cases s with
  | zero =>
    rcases (show n = 0 ∨ n = 1 ∨ n = 2 ∨ n = 3 ∨ n = 4 ∨ n = 5 ∨ n = 6 ∨ n = 7 ∨ n = 8 ∨ n = 9 ∨ n = 10 ∨ n = 11 by omega) with rfl | rfl | rfl | rfl | rfl | rfl | rfl | rfl | rfl | rfl | rfl | rfl
    · exact bri0_0 G d I h1 h2 _ ⟨⟨_, rfl, ⟨by decide, by decide⟩⟩, hMC, fun _ _ => rfl, fun _ _ => rfl, fun _ _ _ => rfl⟩
    · exact bri0_1 G d I h1 h2 _ ⟨⟨_, rfl, ⟨by decide, by decide⟩⟩, hMC, fun _ _ => rfl, fun _ _ => rfl, fun _ _ _ => rfl⟩
    · exact bri0_2 G d I h1 h2 _ ⟨⟨_, rfl, ⟨by decide, by decide⟩⟩, hMC, fun _ _ => rfl, fun _ _ => rfl, fun _ _ _ => rfl⟩
    · exact bri0_3 G d I h1 h2 _ ⟨⟨_, rfl, ⟨by decide, by decide⟩⟩, hMC, fun _ _ => rfl, fun _ _ => rfl, fun _ _ _ => rfl⟩
    · exact bri0_4 G d I h1 h2 _ ⟨⟨_, rfl, ⟨by decide, by decide⟩⟩, hMC, fun _ _ => rfl, fun _ _ => rfl, fun _ _ _ => rfl⟩
    · exact bri0_5 G d I h1 h2 _ ⟨⟨_, rfl, ⟨by decide, by decide⟩⟩, hMC, fun _ _ => rfl, fun _ _ => rfl, fun _ _ _ => rfl⟩
    · exact bri0_6 G d I h1 h2 _ ⟨⟨_, rfl, ⟨by decide, by decide⟩⟩, hMC, fun _ _ => rfl, fun _ _ => rfl, fun _ _ _ => rfl⟩
    · exact bri0_7 G d I h1 h2 _ ⟨⟨_, rfl, ⟨by decide, by decide⟩⟩, hMC, fun _ _ => rfl, fun _ _ => rfl, fun _ _ _ => rfl⟩
    · exact bri0_8 G d I h1 h2 _ ⟨⟨_, rfl, ⟨by decide, by decide⟩⟩, hMC, fun _ _ => rfl, fun _ _ => rfl, fun _ _ _ => rfl⟩
    · exact bri0_9 G d I h1 h2 _ ⟨⟨_, rfl, ⟨by decide, by decide⟩⟩, hMC, fun _ _ => rfl, fun _ _ => rfl, fun _ _ _ => rfl⟩
    · exact bri0_10 G d I h1 h2 _ ⟨⟨_, rfl, ⟨by decide, by decide⟩⟩, hMC, fun _ _ => rfl, fun _ _ => rfl, fun _ _ _ => rfl⟩
    · exact bri0_11 G d I h1 h2 _ ⟨⟨_, rfl, ⟨by decide, by decide⟩⟩, hMC, fun _ _ => rfl, fun _ _ => rfl, fun _ _ _ => rfl⟩
  | succ s =>
    have fin : ∀ m, m = (n + 11) % 12 → ∀ L, (∀ j, j < 9 → L 3 j = I (46 + 4 * n) j) → (∀ j, j < 72 → L 5 j = I (48 + 4 * n) j) → (∀ a, ¬ (3 ≤ a ∧ a ≤ 6) → L a = I a) → UQ I (some (.int (nI 1))) (zup (zup L 44 2 (nI m)) 44 1 (nI s)) := by
      intro m em L c1 c2 c3
      have h0 := hk 0 (by omega)
      rw [show (n + 12 - 0) % 12 = n by omega] at h0
      have e3 : ∀ i, i < 3 → (zup (zup L 44 2 (nI m)) 44 1 (nI s)) 3 i = I 3 i := fun i hi => by rw [zup_ne _ _ (by decide), zup_ne _ _ (by decide), c1 i (by omega)]; exact h0.1 i hi
      have e5 : ∀ i, i < 8 → (zup (zup L 44 2 (nI m)) 44 1 (nI s)) 5 (9 * i + 8) = I 5 (9 * i + 8) := fun i hi => by rw [zup_ne _ _ (by decide), zup_ne _ _ (by decide), c2 (9 * i + 8) (by omega), show 48 + 4 * n = 46 + 4 * n + 2 by omega]; exact h0.2 i hi
      refine ⟨⟨_, rfl, ⟨by decide, by decide⟩⟩, ⟨m, s, by omega, by omega, by rw [zup_at, upd_ne _ _ (by decide), zup_at, upd_at], by rw [zup_at, upd_at], fun k q => ?_⟩, e3, e5, fun a a1 a2 => by rw [zup_ne _ _ a2, zup_ne _ _ a2]; exact c3 a a1⟩
      rw [show (m + 12 - k) % 12 = (n + 12 - (k + 1)) % 12 by omega]
      have hh := hk (k + 1) (by omega)
      have lt : (n + 12 - (k + 1)) % 12 < 12 := by omega
      generalize (n + 12 - (k + 1)) % 12 = y at hh lt
      exact hh.of (by rw [zup_ne _ _ (by omega), zup_ne _ _ (by omega), c3 _ (by omega)]) (by rw [zup_ne _ _ (by omega), zup_ne _ _ (by omega), c3 _ (by omega)]) e3 e5
    rcases (show n = 0 ∨ n = 1 ∨ n = 2 ∨ n = 3 ∨ n = 4 ∨ n = 5 ∨ n = 6 ∨ n = 7 ∨ n = 8 ∨ n = 9 ∨ n = 10 ∨ n = 11 by omega) with rfl | rfl | rfl | rfl | rfl | rfl | rfl | rfl | rfl | rfl | rfl | rfl
    · exact bri_0 G d I s (by omega) h1 h2 _ (fin 11 (by decide))
    · exact bri_1 G d I s (by omega) h1 h2 _ (fin 0 (by decide))
    · exact bri_2 G d I s (by omega) h1 h2 _ (fin 1 (by decide))
    · exact bri_3 G d I s (by omega) h1 h2 _ (fin 2 (by decide))
    · exact bri_4 G d I s (by omega) h1 h2 _ (fin 3 (by decide))
    · exact bri_5 G d I s (by omega) h1 h2 _ (fin 4 (by decide))
    · exact bri_6 G d I s (by omega) h1 h2 _ (fin 5 (by decide))
    · exact bri_7 G d I s (by omega) h1 h2 _ (fin 6 (by decide))
    · exact bri_8 G d I s (by omega) h1 h2 _ (fin 7 (by decide))
    · exact bri_9 G d I s (by omega) h1 h2 _ (fin 8 (by decide))
    · exact bri_10 G d I s (by omega) h1 h2 _ (fin 9 (by decide))
    · exact bri_11 G d I s (by omega) h1 h2 _ (fin 10 (by decide))
theorem xk_undo (I : Hi) (h : MC I) : Ct G GAM mX9_undo (d + 2) 0 [.ref 0] I (Rv (UQ I)) := by
  refine Ct.mk [some (.ref 0)] ?_
  refine Rn.aload_n dX9_undo_0 rfl rfl ?_
  refine Rn.getR dX9_undo_1 fd_X9_76_8 (by first | rfl | exact gC0 (by assumption) | exact gL0 (by assumption)) rfl ?_
  refine Rn.aload_n dX9_undo_4 rfl rfl ?_
  refine Rn.getR dX9_undo_5 fd_X9_19_8 (by first | rfl | exact gC0 (by assumption) | exact gL0 (by assumption)) rfl ?_
  refine Rn.callV (As := [_]) dX9_undo_8 mv_X9_338 (by first | rfl | exact gC0 (by assumption) | exact gL0 (by assumption)) rfl rfl rfl (Nat.le_of_ble_eq_true rfl) (ct_bring G d I h) (fun _ _ h => h) (fun v J h => ?_)
  obtain ⟨x, rfl, hx⟩ := h.1
  rcases bool_of hx with rfl | rfl
  · exact Rn.zret dX9_undo_11 rfl rfl (h)
  · exact Rn.zret dX9_undo_11 rfl rfl (h)
theorem xk_image (I : Hi) : Ct G GAM mX9_image (d + 1) 0 [.ref 0] I (Rv (fun v J => v = none ∧ (∀ j, j < 9 → J 11 j = I 3 j) ∧ (∀ j, j < 72 → J 13 j = I 5 j) ∧ J 0 11 = nI 1 ∧ (∀ j, j ≠ 11 → J 0 j = I 0 j) ∧ ∀ a, a ≠ 0 → ¬ (11 ≤ a ∧ a ≤ 14) → ¬ (30 ≤ a ∧ a ≤ 36) → J a = I a)) := by
  refine Ct.mk [some (.ref 0)] ?_
  refine Rn.aload_n dX9_image_0 rfl rfl ?_
  refine Rn.getR dX9_image_1 fd_X9_26_8 (by first | rfl | exact gC0 (by assumption) | exact gL0 (by assumption)) rfl ?_
  refine Rn.aload_n dX9_image_4 rfl rfl ?_
  refine Rn.getR dX9_image_5 fd_X9_19_8 (by first | rfl | exact gC0 (by assumption) | exact gL0 (by assumption)) rfl ?_
  refine Rn.callV (As := [_]) dX9_image_8 mv_X9_91 (by first | rfl | exact gC0 (by assumption) | exact gL0 (by assumption)) rfl rfl rfl (Nat.le_of_ble_eq_true rfl) (ct_cp3_11 G d I) (fun _ _ h => h) (fun v J h => ?_)
  obtain ⟨rfl, c1, c2, c3⟩ := h
  refine Rn.aload_n dX9_image_11 rfl rfl ?_
  refine Rn.getR dX9_image_12 fd_X9_43_8 (by first | rfl | exact gC0 (by assumption) | exact gL0 (by assumption)) rfl ?_
  refine Rn.aload_n dX9_image_15 rfl rfl ?_
  refine Rn.getR dX9_image_16 fd_X9_32_8 (by first | rfl | exact gC0 (by assumption) | exact gL0 (by assumption)) rfl ?_
  refine Rn.getR dX9_image_19 fd_X9_125_5 (by first | rfl | exact gC0 (by assumption) | exact gL0 (by assumption)) rfl ?_
  refine Rn.callV (As := [_]) dX9_image_22 mv_X9_128 (by first | rfl | exact gC0 (by assumption) | exact gL0 (by assumption)) rfl rfl rfl (Nat.le_of_ble_eq_true rfl) (ct_cl16_30 G d _) (fun _ _ h => h) (fun v J h => ?_)
  obtain ⟨rfl, c4⟩ := h
  refine Rn.aload_n dX9_image_25 rfl rfl ?_
  refine Rn.iconst (v := (nI 1)) dX9_image_26 rfl ?_
  refine Rn.put dX9_image_27 fp_X9_342_8 (by first | rfl | exact gC0 (by assumption) | exact gL0 (by assumption)) rfl ⟨rfl, rfl⟩ ?_
  exact Rn.vret dX9_image_30 rfl (⟨rfl, fun j hj => by rw [zup_ne _ _ (by decide), c4 11 (by decide)]; exact c1 j hj, fun j hj => by rw [zup_ne _ _ (by decide), c4 13 (by decide)]; exact c2 j hj, by rw [zup_at, upd_at], fun j hj => by rw [zup_at, upd_ne _ _ hj, c4 0 (by decide), c3 0 (by decide)], fun a a1 a2 a3 => by rw [zup_ne _ _ a1, c4 a a3, c3 a a2]⟩)
theorem xk_back (I : Hi) (h : I 0 11 = nI 0 ∨ I 0 11 = nI 1) : Ct G GAM mX9_back (d + 1) 0 [.ref 0] I (Rv (fun v J => v = some (.int (I 0 11)) ∧ ((I 0 11 = nI 0 ∧ J = I) ∨ (I 0 11 = nI 1 ∧ (∀ j, j < 9 → J 3 j = I 11 j) ∧ (∀ j, j < 72 → J 5 j = I 13 j) ∧ J 44 1 = nI 0 ∧ J 44 2 = I 44 2 ∧ ∀ a, ¬ (3 ≤ a ∧ a ≤ 6) → ¬ (16 ≤ a ∧ a ≤ 22) → a ≠ 44 → J a = I a)))) := by
  refine Ct.mk [some (.ref 0)] ?_
  rcases h with h0 | h0
  · refine Rn.aload_n dX9_back_0 rfl rfl ?_
    refine Rn.getI dX9_back_1 fd_X9_342_8 (by first | rfl | exact gC0 (by assumption) | exact gL0 (by assumption)) rfl ?_
    refine Rn.topI (nI 0) (by exact h0) ?_
    refine Rn.if_ne (tgt := 9) dX9_back_4 (by decide) (fun h9 => absurd h9 (by decide)) (fun _ => ?_)
    refine Rn.iconst (v := (nI 0)) dX9_back_7 rfl ?_
    exact Rn.zret dX9_back_8 rfl rfl (⟨by rw [h0], Or.inl ⟨h0, rfl⟩⟩)
  · refine Rn.aload_n dX9_back_0 rfl rfl ?_
    refine Rn.getI dX9_back_1 fd_X9_342_8 (by first | rfl | exact gC0 (by assumption) | exact gL0 (by assumption)) rfl ?_
    refine Rn.topI (nI 1) (by exact h0) ?_
    refine Rn.if_ne (tgt := 9) dX9_back_4 (by decide) (fun _ => ?_) (fun h9 => absurd h9 (by decide))
    refine Rn.aload_n dX9_back_9 rfl rfl ?_
    refine Rn.getR dX9_back_10 fd_X9_19_8 (by first | rfl | exact gC0 (by assumption) | exact gL0 (by assumption)) rfl ?_
    refine Rn.aload_n dX9_back_13 rfl rfl ?_
    refine Rn.getR dX9_back_14 fd_X9_26_8 (by first | rfl | exact gC0 (by assumption) | exact gL0 (by assumption)) rfl ?_
    refine Rn.callV (As := [_]) dX9_back_17 mv_X9_91 (by first | rfl | exact gC0 (by assumption) | exact gL0 (by assumption)) rfl rfl rfl (Nat.le_of_ble_eq_true rfl) (ct_cp11_3 G d I) (fun _ _ h => h) (fun v J h => ?_)
    obtain ⟨rfl, c1, c2, c3⟩ := h
    refine Rn.aload_n dX9_back_20 rfl rfl ?_
    refine Rn.getR dX9_back_21 fd_X9_32_8 (by first | rfl | exact gC0 (by assumption) | exact gL0 (by assumption)) rfl ?_
    refine Rn.getR dX9_back_24 fd_X9_125_5 (by first | rfl | exact gC0 (by assumption) | exact gL0 (by assumption)) rfl ?_
    refine Rn.aload_n dX9_back_27 rfl rfl ?_
    refine Rn.getR dX9_back_28 fd_X9_43_8 (by first | rfl | exact gC0 (by assumption) | exact gL0 (by assumption)) rfl ?_
    refine Rn.callV (As := [_]) dX9_back_31 mv_X9_128 (by first | rfl | exact gC0 (by assumption) | exact gL0 (by assumption)) rfl rfl rfl (Nat.le_of_ble_eq_true rfl) (ct_cl30_16 G d _) (fun _ _ h => h) (fun v J h => ?_)
    obtain ⟨rfl, c4⟩ := h
    refine Rn.aload_n dX9_back_34 rfl rfl ?_
    refine Rn.getR dX9_back_35 fd_X9_76_8 (by first | rfl | exact gC0 (by assumption) | exact gL0 (by assumption)) rfl ?_
    refine Rn.callVp (As := []) dX9_back_38 mv_X9_118 (by first | rfl | exact gC0 (by assumption) | exact gL0 (by assumption)) rfl rfl rfl (Nat.le_of_ble_eq_true rfl) (ct_forget5 G d _) ?_
    refine Rn.iconst (v := (nI 1)) dX9_back_41 rfl ?_
    exact Rn.zret dX9_back_42 rfl rfl (⟨by rw [h0], Or.inr ⟨h0, fun j hj => by rw [zup_ne _ _ (by decide), c4 3 (by decide)]; exact c1 j hj, fun j hj => by rw [zup_ne _ _ (by decide), c4 5 (by decide)]; exact c2 j hj, by rw [zup_at, upd_at], by rw [zup_at, upd_ne _ _ (by decide), c4 44 (by decide), c3 44 (by decide)], fun a a1 a2 a3 => by rw [zup_ne _ _ a3, c4 a a2, c3 a a1]⟩⟩)
end Kmm
