theorem dX3_readsSum_76 : decode cX3_readsSum 76 = .ok (.aload_n 0, 1) := by decide +kernel
theorem dX3_readsSum_77 : decode cX3_readsSum 77 = .ok (.getfield 15, 3) := by decide +kernel
theorem dX3_readsSum_80 : decode cX3_readsSum 80 = .ok (.invokevirtual 62, 3) := by decide +kernel
theorem dX3_readsSum_83 : decode cX3_readsSum 83 = .ok (.aload_n 0, 1) := by decide +kernel
theorem dX3_readsSum_84 : decode cX3_readsSum 84 = .ok (.getfield 15, 3) := by decide +kernel
theorem dX3_readsSum_87 : decode cX3_readsSum 87 = .ok (.getfield 76, 3) := by decide +kernel
theorem dX3_readsSum_90 : decode cX3_readsSum 90 = .ok (.bipush 43, 2) := by decide +kernel
theorem dX3_readsSum_92 : decode cX3_readsSum 92 = .ok (.if_icmp .eq 5, 3) := by decide +kernel
theorem dX3_readsSum_97 : decode cX3_readsSum 97 = .ok (.aload_n 0, 1) := by decide +kernel
theorem dX3_readsSum_98 : decode cX3_readsSum 98 = .ok (.getfield 15, 3) := by decide +kernel
theorem dX3_readsSum_101 : decode cX3_readsSum 101 = .ok (.invokevirtual 62, 3) := by decide +kernel
theorem dX3_readsSum_104 : decode cX3_readsSum 104 = .ok (.iinc 1 1, 3) := by decide +kernel
theorem dX3_readsSum_107 : decode cX3_readsSum 107 = .ok (.goto (-105), 3) := by decide +kernel
theorem dX3_readsSum_95 : decode cX3_readsSum 95 = .ok (.iconst 1, 1) := by decide +kernel
theorem dX3_readsSum_96 : decode cX3_readsSum 96 = .ok (.ireturn, 1) := by decide +kernel
theorem dX3_readsSum_63 : decode cX3_readsSum 63 = .ok (.iload_n 1, 1) := by decide +kernel
theorem dX3_readsSum_64 : decode cX3_readsSum 64 = .ok (.ifCond .le 12, 3) := by decide +kernel
theorem dX3_readsSum_67 : decode cX3_readsSum 67 = .ok (.aload_n 0, 1) := by decide +kernel
theorem dX3_readsSum_68 : decode cX3_readsSum 68 = .ok (.getfield 9, 3) := by decide +kernel
theorem dX3_readsSum_71 : decode cX3_readsSum 71 = .ok (.bipush (-14), 2) := by decide +kernel
theorem dX3_readsSum_73 : decode cX3_readsSum 73 = .ok (.invokevirtual 44, 3) := by decide +kernel
theorem dX3_readsSum_2 : decode cX3_readsSum 2 = .ok (.iload_n 1, 1) := by decide +kernel
theorem dX3_readsSum_3 : decode cX3_readsSum 3 = .ok (.sipush 400, 3) := by decide +kernel
theorem dX3_readsSum_6 : decode cX3_readsSum 6 = .ok (.if_icmp .ge 104, 3) := by decide +kernel
theorem dX3_readsSum_110 : decode cX3_readsSum 110 = .ok (.iconst 0, 1) := by decide +kernel
theorem dX3_readsSum_111 : decode cX3_readsSum 111 = .ok (.ireturn, 1) := by decide +kernel
theorem dX3_readsSum_9 : decode cX3_readsSum 9 = .ok (.aload_n 0, 1) := by decide +kernel
theorem dX3_readsSum_10 : decode cX3_readsSum 10 = .ok (.getfield 15, 3) := by decide +kernel
theorem dX3_readsSum_13 : decode cX3_readsSum 13 = .ok (.getfield 55, 3) := by decide +kernel
theorem dX3_readsSum_16 : decode cX3_readsSum 16 = .ok (.invokestatic 70, 3) := by decide +kernel
theorem dX3_readsSum_19 : decode cX3_readsSum 19 = .ok (.istore_n 2, 1) := by decide +kernel
theorem dX3_readsSum_20 : decode cX3_readsSum 20 = .ok (.iload_n 2, 1) := by decide +kernel
theorem dX3_readsSum_21 : decode cX3_readsSum 21 = .ok (.iconst (-1), 1) := by decide +kernel
theorem dX3_readsSum_22 : decode cX3_readsSum 22 = .ok (.if_icmp .ne 16, 3) := by decide +kernel
theorem dX3_readsSum_25 : decode cX3_readsSum 25 = .ok (.aload_n 0, 1) := by decide +kernel
theorem dX3_readsSum_26 : decode cX3_readsSum 26 = .ok (.getfield 15, 3) := by decide +kernel
theorem dX3_readsSum_29 : decode cX3_readsSum 29 = .ok (.getfield 73, 3) := by decide +kernel
theorem dX3_readsSum_32 : decode cX3_readsSum 32 = .ok (.iconst (-1), 1) := by decide +kernel
theorem dX3_readsSum_33 : decode cX3_readsSum 33 = .ok (.if_icmp .ne 5, 3) := by decide +kernel
theorem dX3_readsSum_38 : decode cX3_readsSum 38 = .ok (.aload_n 0, 1) := by decide +kernel
theorem dX3_readsSum_39 : decode cX3_readsSum 39 = .ok (.getfield 9, 3) := by decide +kernel
theorem dX3_readsSum_42 : decode cX3_readsSum 42 = .ok (.iload_n 2, 1) := by decide +kernel
theorem dX3_readsSum_43 : decode cX3_readsSum 43 = .ok (.iconst (-1), 1) := by decide +kernel
theorem dX3_readsSum_44 : decode cX3_readsSum 44 = .ok (.if_icmp .ne 13, 3) := by decide +kernel
theorem dX3_readsSum_47 : decode cX3_readsSum 47 = .ok (.aload_n 0, 1) := by decide +kernel
theorem dX3_readsSum_48 : decode cX3_readsSum 48 = .ok (.getfield 15, 3) := by decide +kernel
theorem dX3_readsSum_51 : decode cX3_readsSum 51 = .ok (.getfield 73, 3) := by decide +kernel
theorem dX3_readsSum_54 : decode cX3_readsSum 54 = .ok (.goto 6, 3) := by decide +kernel
theorem dX3_readsSum_60 : decode cX3_readsSum 60 = .ok (.invokevirtual 44, 3) := by decide +kernel
theorem dX3_readsSum_36 : decode cX3_readsSum 36 = .ok (.iconst 0, 1) := by decide +kernel
theorem dX3_readsSum_37 : decode cX3_readsSum 37 = .ok (.ireturn, 1) := by decide +kernel
theorem dX3_readsSum_57 : decode cX3_readsSum 57 = .ok (.iconst (-1), 1) := by decide +kernel
theorem dX3_readsSum_58 : decode cX3_readsSum 58 = .ok (.iload_n 2, 1) := by decide +kernel
theorem dX3_readsSum_59 : decode cX3_readsSum 59 = .ok (.isub, 1) := by decide +kernel
theorem dX3_readsSum_0 : decode cX3_readsSum 0 = .ok (.iconst 0, 1) := by decide +kernel
theorem dX3_readsSum_1 : decode cX3_readsSum 1 = .ok (.istore_n 1, 1) := by decide +kernel
theorem dX3_readsAll_12 : decode cX3_readsAll 12 = .ok (.iload_n 2, 1) := by decide +kernel
theorem dX3_readsAll_13 : decode cX3_readsAll 13 = .ok (.sipush 400, 3) := by decide +kernel
theorem dX3_readsAll_16 : decode cX3_readsAll 16 = .ok (.if_icmp .ge 41, 3) := by decide +kernel
theorem dX3_readsAll_57 : decode cX3_readsAll 57 = .ok (.iconst 1, 1) := by decide +kernel
theorem dX3_readsAll_58 : decode cX3_readsAll 58 = .ok (.ireturn, 1) := by decide +kernel
theorem dX3_readsAll_19 : decode cX3_readsAll 19 = .ok (.aload_n 0, 1) := by decide +kernel
theorem dX3_readsAll_20 : decode cX3_readsAll 20 = .ok (.getfield 15, 3) := by decide +kernel
theorem dX3_readsAll_23 : decode cX3_readsAll 23 = .ok (.sipush 1476, 3) := by decide +kernel
theorem dX3_readsAll_26 : decode cX3_readsAll 26 = .ok (.invokevirtual 20, 3) := by decide +kernel
theorem dX3_readsAll_29 : decode cX3_readsAll 29 = .ok (.ifCond .eq 28, 3) := by decide +kernel
theorem dX3_readsAll_32 : decode cX3_readsAll 32 = .ok (.aload_n 0, 1) := by decide +kernel
theorem dX3_readsAll_33 : decode cX3_readsAll 33 = .ok (.iload_n 1, 1) := by decide +kernel
theorem dX3_readsAll_34 : decode cX3_readsAll 34 = .ok (.invokevirtual 48, 3) := by decide +kernel
theorem dX3_readsAll_37 : decode cX3_readsAll 37 = .ok (.ifCond .ne 5, 3) := by decide +kernel
theorem dX3_readsAll_40 : decode cX3_readsAll 40 = .ok (.iconst 0, 1) := by decide +kernel
theorem dX3_readsAll_41 : decode cX3_readsAll 41 = .ok (.ireturn, 1) := by decide +kernel
theorem dX3_readsAll_42 : decode cX3_readsAll 42 = .ok (.aload_n 0, 1) := by decide +kernel
theorem dX3_readsAll_43 : decode cX3_readsAll 43 = .ok (.getfield 9, 3) := by decide +kernel
theorem dX3_readsAll_46 : decode cX3_readsAll 46 = .ok (.bipush (-12), 2) := by decide +kernel
theorem dX3_readsAll_48 : decode cX3_readsAll 48 = .ok (.invokevirtual 44, 3) := by decide +kernel
theorem dX3_readsAll_51 : decode cX3_readsAll 51 = .ok (.iinc 2 1, 3) := by decide +kernel
theorem dX3_readsAll_54 : decode cX3_readsAll 54 = .ok (.goto (-42), 3) := by decide +kernel
theorem dX3_readsAll_0 : decode cX3_readsAll 0 = .ok (.aload_n 0, 1) := by decide +kernel
theorem dX3_readsAll_1 : decode cX3_readsAll 1 = .ok (.iload_n 1, 1) := by decide +kernel
theorem dX3_readsAll_2 : decode cX3_readsAll 2 = .ok (.invokevirtual 48, 3) := by decide +kernel
theorem dX3_readsAll_5 : decode cX3_readsAll 5 = .ok (.ifCond .ne 5, 3) := by decide +kernel
theorem dX3_readsAll_8 : decode cX3_readsAll 8 = .ok (.iconst 0, 1) := by decide +kernel
theorem dX3_readsAll_9 : decode cX3_readsAll 9 = .ok (.ireturn, 1) := by decide +kernel
theorem dX3_readsAll_10 : decode cX3_readsAll 10 = .ok (.iconst 0, 1) := by decide +kernel
theorem dX3_readsAll_11 : decode cX3_readsAll 11 = .ok (.istore_n 2, 1) := by decide +kernel
theorem dX3_readsAny_12 : decode cX3_readsAny 12 = .ok (.iload_n 2, 1) := by decide +kernel
theorem dX3_readsAny_13 : decode cX3_readsAny 13 = .ok (.sipush 400, 3) := by decide +kernel
theorem dX3_readsAny_16 : decode cX3_readsAny 16 = .ok (.if_icmp .ge 41, 3) := by decide +kernel
theorem dX3_readsAny_57 : decode cX3_readsAny 57 = .ok (.iconst 1, 1) := by decide +kernel
theorem dX3_readsAny_58 : decode cX3_readsAny 58 = .ok (.ireturn, 1) := by decide +kernel
theorem dX3_readsAny_19 : decode cX3_readsAny 19 = .ok (.aload_n 0, 1) := by decide +kernel
theorem dX3_readsAny_20 : decode cX3_readsAny 20 = .ok (.getfield 15, 3) := by decide +kernel
theorem dX3_readsAny_23 : decode cX3_readsAny 23 = .ok (.sipush 498, 3) := by decide +kernel
theorem dX3_readsAny_26 : decode cX3_readsAny 26 = .ok (.invokevirtual 20, 3) := by decide +kernel
theorem dX3_readsAny_29 : decode cX3_readsAny 29 = .ok (.ifCond .eq 28, 3) := by decide +kernel
theorem dX3_readsAny_32 : decode cX3_readsAny 32 = .ok (.aload_n 0, 1) := by decide +kernel
theorem dX3_readsAny_33 : decode cX3_readsAny 33 = .ok (.iload_n 1, 1) := by decide +kernel
theorem dX3_readsAny_34 : decode cX3_readsAny 34 = .ok (.invokevirtual 41, 3) := by decide +kernel
theorem dX3_readsAny_37 : decode cX3_readsAny 37 = .ok (.ifCond .ne 5, 3) := by decide +kernel
theorem dX3_readsAny_40 : decode cX3_readsAny 40 = .ok (.iconst 0, 1) := by decide +kernel
theorem dX3_readsAny_41 : decode cX3_readsAny 41 = .ok (.ireturn, 1) := by decide +kernel
theorem dX3_readsAny_42 : decode cX3_readsAny 42 = .ok (.aload_n 0, 1) := by decide +kernel
theorem dX3_readsAny_43 : decode cX3_readsAny 43 = .ok (.getfield 9, 3) := by decide +kernel
theorem dX3_readsAny_46 : decode cX3_readsAny 46 = .ok (.bipush (-13), 2) := by decide +kernel
theorem dX3_readsAny_48 : decode cX3_readsAny 48 = .ok (.invokevirtual 44, 3) := by decide +kernel
theorem dX3_readsAny_51 : decode cX3_readsAny 51 = .ok (.iinc 2 1, 3) := by decide +kernel
theorem dX3_readsAny_54 : decode cX3_readsAny 54 = .ok (.goto (-42), 3) := by decide +kernel
theorem dX3_readsAny_0 : decode cX3_readsAny 0 = .ok (.aload_n 0, 1) := by decide +kernel
theorem dX3_readsAny_1 : decode cX3_readsAny 1 = .ok (.iload_n 1, 1) := by decide +kernel
theorem dX3_readsAny_2 : decode cX3_readsAny 2 = .ok (.invokevirtual 41, 3) := by decide +kernel
theorem dX3_readsAny_5 : decode cX3_readsAny 5 = .ok (.ifCond .ne 5, 3) := by decide +kernel
theorem dX3_readsAny_8 : decode cX3_readsAny 8 = .ok (.iconst 0, 1) := by decide +kernel
theorem dX3_readsAny_9 : decode cX3_readsAny 9 = .ok (.ireturn, 1) := by decide +kernel
theorem dX3_readsAny_10 : decode cX3_readsAny 10 = .ok (.iconst 0, 1) := by decide +kernel
theorem dX3_readsAny_11 : decode cX3_readsAny 11 = .ok (.istore_n 2, 1) := by decide +kernel
/-! the class's reader of conditions -/
theorem nk_ne {k : Nat} (hk : k < 100) (h : nI k = -1) : False := by
  have h2 := congrArg Int32.toInt h
  rw [nI_toInt (by omega)] at h2
  have : (-1 : Int32).toInt = -1 := by decide
  omega
def RdL (G : Gx) (c : Nat → Nat) (e : Nat) (y : Ym) (dd dep : Nat) (g : Nat → Go) : Prop := ∀ (I : Hi) (q : Nat), TX I c e → q ≤ e → Ct G GAM y dd 0 [.ref 38, .int (nI dep)] (TQ5 I c e q) (Rv (CO5 I c e (g q)))
section Cl5
variable (G : Gx) (d : Nat) (I : Hi) {c : Nat → Nat} {e : Nat}
theorem cl_s3 (hT : TX I c e) (o : Go) (f i q : Nat) (x2 : Option Value) (K : Hi) (hK : KP I K) (hq : q < e) (ho : (if fs c e (nx c e q) = nI 43 then gSumL c e f (nx c e (nx c e q)) else .inr (nx c e q)) = o) (kk : ∀ K', KP I K' → fs c e (nx c e q) = nI 43 → Rn G GAM mX3_readsSum (kM G GAM (Rv (CO5 I c e o))) (d + 1) 0 2 [some (.ref 38), some (.int (nI (i + 1))), x2] [] (TQ5 K' c e (nx c e (nx c e q)))) : Rn G GAM mX3_readsSum (kM G GAM (Rv (CO5 I c e o))) (d + 1) 0 76 [some (.ref 38), some (.int (nI i)), x2] [] (TQ5 K c e q) := by
  refine Rn.aload_n dX3_readsSum_76 rfl rfl ?_
  refine Rn.getR dX3_readsSum_77 fd_X3_15_3 (by first | rfl | exact gC0 (by assumption) | exact gL0 (by assumption)) rfl ?_
  refine Rn.callVp (As := []) dX3_readsSum_80 mv_X3_62 (by first | rfl | exact gC0 (by assumption) | exact gL0 (by assumption)) rfl rfl rfl (Nat.le_of_ble_eq_true rfl) (ct_st G d K (hK.tx hT) q hq) ?_
  refine Rn.aload_n dX3_readsSum_83 rfl rfl ?_
  refine Rn.getR dX3_readsSum_84 fd_X3_15_3 (by first | rfl | exact gC0 (by assumption) | exact gL0 (by assumption)) rfl ?_
  refine Rn.getI dX3_readsSum_87 fd_X3_76_7 (by first | rfl | exact gC0 (by assumption) | exact gL0 (by assumption)) rfl ?_
  refine Rn.topI (fs c e (nx c e q)) (by rfl) ?_
  refine Rn.bipush (v := (nI 43)) dX3_readsSum_90 rfl ?_
  refine Rn.icmp_eq (tgt := 97) dX3_readsSum_92 (by decide) (fun h2 => ?_) (fun h2 => ?_)
  · refine Rn.aload_n dX3_readsSum_97 rfl rfl ?_
    refine Rn.getR dX3_readsSum_98 fd_X3_15_3 (by first | rfl | exact gC0 (by assumption) | exact gL0 (by assumption)) rfl ?_
    refine Rn.callVp (As := []) dX3_readsSum_101 mv_X3_62 (by first | rfl | exact gC0 (by assumption) | exact gL0 (by assumption)) rfl rfl rfl (Nat.le_of_ble_eq_true rfl) (ct_st G d K (hK.tx hT) (nx c e q) (fs_lt (by decide) h2)) ?_
    refine Rn.iincN dX3_readsSum_104 rfl (by decide) ?_
    refine Rn.goto 2 dX3_readsSum_107 (by decide) ?_
    exact kk K hK h2
  · rw [if_neg h2] at ho
    refine Rn.iconst (v := (nI 1)) dX3_readsSum_95 rfl ?_
    exact Rn.zret dX3_readsSum_96 rfl rfl (⟨K, nx c e q, hK, rfl, nx_le hq, Or.inr ⟨ho.symm, rfl⟩⟩)
theorem cl_s2 (hT : TX I c e) (o : Go) (f i q : Nat) (x2 : Option Value) (K : Hi) (hi : i < 1000) (hK : KP I K) (hq : q < e) (ho : (if fs c e (nx c e q) = nI 43 then gSumL c e f (nx c e (nx c e q)) else .inr (nx c e q)) = o) (kk : ∀ K', KP I K' → fs c e (nx c e q) = nI 43 → Rn G GAM mX3_readsSum (kM G GAM (Rv (CO5 I c e o))) (d + 1) 0 2 [some (.ref 38), some (.int (nI (i + 1))), x2] [] (TQ5 K' c e (nx c e (nx c e q)))) : Rn G GAM mX3_readsSum (kM G GAM (Rv (CO5 I c e o))) (d + 1) 0 63 [some (.ref 38), some (.int (nI i)), x2] [] (TQ5 K c e q) := by
  refine Rn.iload_n dX3_readsSum_63 rfl rfl ?_
  refine Rn.if_leN dX3_readsSum_64 76 (fun h1 => ?_) (fun h1 => ?_)
  · exact cl_s3 G d I hT o f i q x2 K hK hq ho kk
  · refine Rn.aload_n dX3_readsSum_67 rfl rfl ?_
    refine Rn.getR dX3_readsSum_68 fd_X3_9_3 (by first | rfl | exact gC0 (by assumption) | exact gL0 (by assumption)) rfl ?_
    refine Rn.bipush (v := (-14)) dX3_readsSum_71 rfl ?_
    refine Rn.callV (As := [_]) dX3_readsSum_73 mv_X3_44 (by first | rfl | exact gC0 (by assumption) | exact gL0 (by assumption)) rfl rfl rfl (Nat.le_of_ble_eq_true rfl) (ct_addS G d K _ q) (fun _ _ h => h) (fun v J h => ?_)
    obtain ⟨rfl, K2, hK2, rfl⟩ := h
    exact cl_s3 G d I hT o f i q x2 K2 (hK.tr hK2) hq ho kk
theorem cl_sumL (hT : TX I c e) (o : Go) : ∀ (f i q : Nat) (x2 : Option Value) (K : Hi), i + f = 400 → q ≤ e → KP I K → gSumL c e f q = o → Rn G GAM mX3_readsSum (kM G GAM (Rv (CO5 I c e o))) (d + 1) 0 2 [some (.ref 38), some (.int (nI i)), x2] [] (TQ5 K c e q) := by
  intro f
  induction f with
  | zero =>
    intro i q x2 K hi hq hK ho
    refine Rn.iload_n dX3_readsSum_2 rfl rfl ?_
    refine Rn.sipush (v := (nI 400)) dX3_readsSum_3 rfl ?_
    refine Rn.icmp_geN dX3_readsSum_6 110 (fun _ => ?_) (fun h9 => by exfalso; omega)
    refine Rn.iconst (v := (nI 0)) dX3_readsSum_110 rfl ?_
    exact Rn.zret dX3_readsSum_111 rfl rfl (⟨K, q, hK, rfl, hq, Or.inl ⟨ho.symm, rfl⟩⟩)
  | succ f ih =>
    intro i q x2 K hi hq hK ho
    have hs : ∀ z : gPart c e q = .inr (nx c e q), (if fs c e (nx c e q) = nI 43 then gSumL c e f (nx c e (nx c e q)) else .inr (nx c e q)) = o := fun z => by
      rw [← ho]
      show _ = gB (gPart c e q) (fun q1 => if fs c e q1 = nI 43 then gSumL c e f (nx c e q1) else .inr q1)
      rw [gB_r z]
    refine Rn.iload_n dX3_readsSum_2 rfl rfl ?_
    refine Rn.sipush (v := (nI 400)) dX3_readsSum_3 rfl ?_
    refine Rn.icmp_geN dX3_readsSum_6 110 (fun h9 => by exfalso; omega) (fun _ => ?_)
    refine Rn.aload_n dX3_readsSum_9 rfl rfl ?_
    refine Rn.getR dX3_readsSum_10 fd_X3_15_3 (by first | rfl | exact gC0 (by assumption) | exact gL0 (by assumption)) rfl ?_
    refine Rn.getI dX3_readsSum_13 fd_X3_55_7 (by first | rfl | exact gC0 (by assumption) | exact gL0 (by assumption)) rfl ?_
    refine Rn.topI (wv c e q) (by rfl) ?_
    refine Rn.callS (As := [_]) dX3_readsSum_16 ms_X3_70 rfl rfl (Nat.le_of_ble_eq_true rfl) (ct_partOf G d _ _) (fun _ _ h => h) (fun v J h => ?_)
    obtain ⟨rfl, ⟨hp, rfl⟩ | ⟨hp, k, hk, rfl⟩⟩ := h
    · refine Rn.istore_n dX3_readsSum_19 rfl (by decide) ?_
      refine Rn.iload_n dX3_readsSum_20 rfl rfl ?_
      refine Rn.iconst (v := (-1)) dX3_readsSum_21 rfl ?_
      refine Rn.icmp_ne (tgt := 38) dX3_readsSum_22 (by decide) (fun h9 => absurd h9 (by decide)) (fun _ => ?_)
      refine Rn.aload_n dX3_readsSum_25 rfl rfl ?_
      refine Rn.getR dX3_readsSum_26 fd_X3_15_3 (by first | rfl | exact gC0 (by assumption) | exact gL0 (by assumption)) rfl ?_
      refine Rn.getI dX3_readsSum_29 fd_X3_73_7 (by first | rfl | exact gC0 (by assumption) | exact gL0 (by assumption)) rfl ?_
      refine Rn.topI (tn c e q) (by rfl) ?_
      refine Rn.iconst (v := (-1)) dX3_readsSum_32 rfl ?_
      refine Rn.icmp_ne (tgt := 38) dX3_readsSum_33 (by decide) (fun h1 => ?_) (fun h1 => ?_)
      · have ho2 := hs (if_pos (Or.inr h1))
        refine Rn.aload_n dX3_readsSum_38 rfl rfl ?_
        refine Rn.getR dX3_readsSum_39 fd_X3_9_3 (by first | rfl | exact gC0 (by assumption) | exact gL0 (by assumption)) rfl ?_
        refine Rn.iload_n dX3_readsSum_42 rfl rfl ?_
        refine Rn.iconst (v := (-1)) dX3_readsSum_43 rfl ?_
        refine Rn.icmp_ne (tgt := 57) dX3_readsSum_44 (by decide) (fun h9 => absurd h9 (by decide)) (fun _ => ?_)
        refine Rn.aload_n dX3_readsSum_47 rfl rfl ?_
        refine Rn.getR dX3_readsSum_48 fd_X3_15_3 (by first | rfl | exact gC0 (by assumption) | exact gL0 (by assumption)) rfl ?_
        refine Rn.getI dX3_readsSum_51 fd_X3_73_7 (by first | rfl | exact gC0 (by assumption) | exact gL0 (by assumption)) rfl ?_
        refine Rn.topI (tn c e q) (by rfl) ?_
        refine Rn.goto 60 dX3_readsSum_54 (by decide) ?_
        refine Rn.callV (As := [_]) dX3_readsSum_60 mv_X3_44 (by first | rfl | exact gC0 (by assumption) | exact gL0 (by assumption)) rfl rfl rfl (Nat.le_of_ble_eq_true rfl) (ct_addS G d K _ q) (fun _ _ h => h) (fun v J h => ?_)
        obtain ⟨rfl, K2, hK2, rfl⟩ := h
        exact cl_s2 G d I hT o f i q _ K2 (by omega) (hK.tr hK2) (tn_lt h1) ho2 (fun K' hK' h2 => ih (i + 1) _ _ K' (by omega) (nx_le (fs_lt (by decide) h2)) hK' (by rw [if_pos h2] at ho2; exact ho2))
      · refine Rn.iconst (v := (nI 0)) dX3_readsSum_36 rfl ?_
        exact Rn.zret dX3_readsSum_37 rfl rfl (⟨K, q, hK, rfl, hq, Or.inl ⟨by rw [← ho]; show gB (gPart c e q) _ = _; exact gB_l (if_neg (fun z => z.elim hp (fun y => y h1))), rfl⟩⟩)
    · have ho2 := hs (if_pos (Or.inl hp))
      have hw : wv c e q ≠ 0 := fun z => by rw [z] at hp; exact absurd hp (by decide)
      refine Rn.istore_n dX3_readsSum_19 rfl (by decide) ?_
      refine Rn.iload_n dX3_readsSum_20 rfl rfl ?_
      refine Rn.iconst (v := (-1)) dX3_readsSum_21 rfl ?_
      refine Rn.icmp_ne (tgt := 38) dX3_readsSum_22 (by decide) (fun _ => ?_) (fun h9 => by exfalso; exact nk_ne hk h9)
      refine Rn.aload_n dX3_readsSum_38 rfl rfl ?_
      refine Rn.getR dX3_readsSum_39 fd_X3_9_3 (by first | rfl | exact gC0 (by assumption) | exact gL0 (by assumption)) rfl ?_
      refine Rn.iload_n dX3_readsSum_42 rfl rfl ?_
      refine Rn.iconst (v := (-1)) dX3_readsSum_43 rfl ?_
      refine Rn.icmp_ne (tgt := 57) dX3_readsSum_44 (by decide) (fun _ => ?_) (fun h9 => by exfalso; exact nk_ne hk h9)
      refine Rn.iconst (v := (-1)) dX3_readsSum_57 rfl ?_
      refine Rn.iload_n dX3_readsSum_58 rfl rfl ?_
      refine Rn.isub dX3_readsSum_59 ?_
      refine Rn.callV (As := [_]) dX3_readsSum_60 mv_X3_44 (by first | rfl | exact gC0 (by assumption) | exact gL0 (by assumption)) rfl rfl rfl (Nat.le_of_ble_eq_true rfl) (ct_addS G d K _ q) (fun _ _ h => h) (fun v J h => ?_)
      obtain ⟨rfl, K2, hK2, rfl⟩ := h
      exact cl_s2 G d I hT o f i q _ K2 (by omega) (hK.tr hK2) (wv_lt hw) ho2 (fun K' hK' h2 => ih (i + 1) _ _ K' (by omega) (nx_le (fs_lt (by decide) h2)) hK' (by rw [if_pos h2] at ho2; exact ho2))
theorem cl_sum (hT : TX I c e) (q : Nat) (hq : q ≤ e) : Ct G GAM mX3_readsSum (d + 1) 0 [.ref 38] (TQ5 I c e q) (Rv (CO5 I c e (gSum c e q))) := by
  refine Ct.mk [some (.ref 38), none, none] ?_
  refine Rn.iconst (v := (nI 0)) dX3_readsSum_0 rfl ?_
  refine Rn.istore_n dX3_readsSum_1 rfl (by decide) ?_
  exact cl_sumL G d I hT _ 400 0 q _ I rfl hq (KP.refl I) rfl
end Cl5
section Cl6
variable (G : Gx) (d : Nat) {c : Nat → Nat} {e : Nat}
theorem cl_lAll (I : Hi) (hT : TX I c e) (dep : Nat) (g : Nat → Go) (hg : RdL G c e mX3_readsAtom (d + 2) dep g) (o : Go) : ∀ (f i q : Nat) (K : Hi), i + f = 400 → q ≤ e → KP I K → gLoop c e 1476 g f q = o → Rn G GAM mX3_readsAll (kM G GAM (Rv (CO5 I c e o))) (d + 3) 0 12 [some (.ref 38), some (.int (nI dep)), some (.int (nI i))] [] (TQ5 K c e q) := by
  intro f
  induction f with
  | zero =>
    intro i q K hi hq hK ho
    refine Rn.iload_n dX3_readsAll_12 rfl rfl ?_
    refine Rn.sipush (v := (nI 400)) dX3_readsAll_13 rfl ?_
    refine Rn.icmp_geN dX3_readsAll_16 57 (fun _ => ?_) (fun h9 => by exfalso; omega)
    refine Rn.iconst (v := (nI 1)) dX3_readsAll_57 rfl ?_
    exact Rn.zret dX3_readsAll_58 rfl rfl (⟨K, q, hK, rfl, hq, Or.inr ⟨ho.symm, rfl⟩⟩)
  | succ f ih =>
    intro i q K hi hq hK ho
    have ho : (if wv c e q = 1476 then gB (g (nx c e q)) (gLoop c e 1476 g f) else .inr q) = o := ho
    refine Rn.iload_n dX3_readsAll_12 rfl rfl ?_
    refine Rn.sipush (v := (nI 400)) dX3_readsAll_13 rfl ?_
    refine Rn.icmp_geN dX3_readsAll_16 57 (fun h9 => by exfalso; omega) (fun _ => ?_)
    refine Rn.aload_n dX3_readsAll_19 rfl rfl ?_
    refine Rn.getR dX3_readsAll_20 fd_X3_15_3 (by first | rfl | exact gC0 (by assumption) | exact gL0 (by assumption)) rfl ?_
    refine Rn.sipush (v := (nI 1476)) dX3_readsAll_23 rfl ?_
    refine Rn.callV (As := [_]) dX3_readsAll_26 mv_X3_20 (by first | rfl | exact gC0 (by assumption) | exact gL0 (by assumption)) rfl rfl rfl (Nat.le_of_ble_eq_true rfl) (ct_tkW G (d + 1) K (hK.tx hT) _ q (by decide)) (fun _ _ h => h) (fun v J h => ?_)
    rcases h with ⟨h1, rfl, rfl⟩ | ⟨h1, h2, rfl, rfl⟩
    · have h1 : wv c e q ≠ 1476 := h1
      rw [if_neg h1] at ho
      refine Rn.if_eq (tgt := 57) dX3_readsAll_29 (by decide) (fun _ => ?_) (fun h9 => absurd h9 (by decide))
      refine Rn.iconst (v := (nI 1)) dX3_readsAll_57 rfl ?_
      exact Rn.zret dX3_readsAll_58 rfl rfl (⟨K, q, hK, rfl, hq, Or.inr ⟨ho.symm, rfl⟩⟩)
    · have h1 : wv c e q = 1476 := h1
      rw [if_pos h1] at ho
      refine Rn.if_eq (tgt := 57) dX3_readsAll_29 (by decide) (fun h9 => absurd h9 (by decide)) (fun _ => ?_)
      refine Rn.aload_n dX3_readsAll_32 rfl rfl ?_
      refine Rn.iload_n dX3_readsAll_33 rfl rfl ?_
      refine Rn.callV (As := [_]) dX3_readsAll_34 mv_X3_48 (by first | rfl | exact gC0 (by assumption) | exact gL0 (by assumption)) rfl rfl rfl (Nat.le_of_ble_eq_true rfl) (hg K (nx c e q) (hK.tx hT) (nx_le h2)) (fun _ _ h => h) (fun v J h => ?_)
      obtain ⟨K2, q2, hK2, rfl, hq2, ⟨hn, rfl⟩ | ⟨hn, rfl⟩⟩ := h
      · rw [gB_l hn] at ho
        refine Rn.if_ne (tgt := 42) dX3_readsAll_37 (by decide) (fun h9 => absurd h9 (by decide)) (fun _ => ?_)
        refine Rn.iconst (v := (nI 0)) dX3_readsAll_40 rfl ?_
        exact Rn.zret dX3_readsAll_41 rfl rfl (⟨K2, q2, hK.tr hK2, rfl, hq2, Or.inl ⟨ho.symm, rfl⟩⟩)
      · rw [gB_r hn] at ho
        refine Rn.if_ne (tgt := 42) dX3_readsAll_37 (by decide) (fun _ => ?_) (fun h9 => absurd h9 (by decide))
        refine Rn.aload_n dX3_readsAll_42 rfl rfl ?_
        refine Rn.getR dX3_readsAll_43 fd_X3_9_3 (by first | rfl | exact gC0 (by assumption) | exact gL0 (by assumption)) rfl ?_
        refine Rn.bipush (v := (-12)) dX3_readsAll_46 rfl ?_
        refine Rn.callV (As := [_]) dX3_readsAll_48 mv_X3_44 (by first | rfl | exact gC0 (by assumption) | exact gL0 (by assumption)) rfl rfl rfl (Nat.le_of_ble_eq_true rfl) (ct_addS G (d + 2) K2 _ q2) (fun _ _ h => h) (fun v J h => ?_)
        obtain ⟨rfl, K3, hK3, rfl⟩ := h
        refine Rn.iincN dX3_readsAll_51 rfl (by decide) ?_
        refine Rn.goto 12 dX3_readsAll_54 (by decide) ?_
        exact ih (i + 1) q2 K3 (by omega) hq2 (hK.tr (hK2.tr hK3)) ho
theorem cl_All (dep : Nat) (g : Nat → Go) (hg : RdL G c e mX3_readsAtom (d + 2) dep g) : RdL G c e mX3_readsAll (d + 3) dep (fun q => gB (g q) (gLoop c e 1476 g 400)) := by
  intro I q hT hq
  refine Ct.mk [some (.ref 38), some (.int (nI dep)), none] ?_
  refine Rn.aload_n dX3_readsAll_0 rfl rfl ?_
  refine Rn.iload_n dX3_readsAll_1 rfl rfl ?_
  refine Rn.callV (As := [_]) dX3_readsAll_2 mv_X3_48 (by first | rfl | exact gC0 (by assumption) | exact gL0 (by assumption)) rfl rfl rfl (Nat.le_of_ble_eq_true rfl) (hg I q hT hq) (fun _ _ h => h) (fun v J h => ?_)
  obtain ⟨K2, q2, hK2, rfl, hq2, ⟨hn, rfl⟩ | ⟨hn, rfl⟩⟩ := h
  · refine Rn.if_ne (tgt := 10) dX3_readsAll_5 (by decide) (fun h9 => absurd h9 (by decide)) (fun _ => ?_)
    refine Rn.iconst (v := (nI 0)) dX3_readsAll_8 rfl ?_
    exact Rn.zret dX3_readsAll_9 rfl rfl (⟨K2, q2, hK2, rfl, hq2, Or.inl ⟨gB_l hn, rfl⟩⟩)
  · refine Rn.if_ne (tgt := 10) dX3_readsAll_5 (by decide) (fun _ => ?_) (fun h9 => absurd h9 (by decide))
    refine Rn.iconst (v := (nI 0)) dX3_readsAll_10 rfl ?_
    refine Rn.istore_n dX3_readsAll_11 rfl (by decide) ?_
    exact cl_lAll G d I hT dep g hg _ 400 0 q2 K2 rfl hq2 hK2 (gB_r hn).symm
theorem cl_lAny (I : Hi) (hT : TX I c e) (dep : Nat) (g : Nat → Go) (hg : RdL G c e mX3_readsAll (d + 2) dep g) (o : Go) : ∀ (f i q : Nat) (K : Hi), i + f = 400 → q ≤ e → KP I K → gLoop c e 498 g f q = o → Rn G GAM mX3_readsAny (kM G GAM (Rv (CO5 I c e o))) (d + 3) 0 12 [some (.ref 38), some (.int (nI dep)), some (.int (nI i))] [] (TQ5 K c e q) := by
  intro f
  induction f with
  | zero =>
    intro i q K hi hq hK ho
    refine Rn.iload_n dX3_readsAny_12 rfl rfl ?_
    refine Rn.sipush (v := (nI 400)) dX3_readsAny_13 rfl ?_
    refine Rn.icmp_geN dX3_readsAny_16 57 (fun _ => ?_) (fun h9 => by exfalso; omega)
    refine Rn.iconst (v := (nI 1)) dX3_readsAny_57 rfl ?_
    exact Rn.zret dX3_readsAny_58 rfl rfl (⟨K, q, hK, rfl, hq, Or.inr ⟨ho.symm, rfl⟩⟩)
  | succ f ih =>
    intro i q K hi hq hK ho
    have ho : (if wv c e q = 498 then gB (g (nx c e q)) (gLoop c e 498 g f) else .inr q) = o := ho
    refine Rn.iload_n dX3_readsAny_12 rfl rfl ?_
    refine Rn.sipush (v := (nI 400)) dX3_readsAny_13 rfl ?_
    refine Rn.icmp_geN dX3_readsAny_16 57 (fun h9 => by exfalso; omega) (fun _ => ?_)
    refine Rn.aload_n dX3_readsAny_19 rfl rfl ?_
    refine Rn.getR dX3_readsAny_20 fd_X3_15_3 (by first | rfl | exact gC0 (by assumption) | exact gL0 (by assumption)) rfl ?_
    refine Rn.sipush (v := (nI 498)) dX3_readsAny_23 rfl ?_
    refine Rn.callV (As := [_]) dX3_readsAny_26 mv_X3_20 (by first | rfl | exact gC0 (by assumption) | exact gL0 (by assumption)) rfl rfl rfl (Nat.le_of_ble_eq_true rfl) (ct_tkW G (d + 1) K (hK.tx hT) _ q (by decide)) (fun _ _ h => h) (fun v J h => ?_)
    rcases h with ⟨h1, rfl, rfl⟩ | ⟨h1, h2, rfl, rfl⟩
    · have h1 : wv c e q ≠ 498 := h1
      rw [if_neg h1] at ho
      refine Rn.if_eq (tgt := 57) dX3_readsAny_29 (by decide) (fun _ => ?_) (fun h9 => absurd h9 (by decide))
      refine Rn.iconst (v := (nI 1)) dX3_readsAny_57 rfl ?_
      exact Rn.zret dX3_readsAny_58 rfl rfl (⟨K, q, hK, rfl, hq, Or.inr ⟨ho.symm, rfl⟩⟩)
    · have h1 : wv c e q = 498 := h1
      rw [if_pos h1] at ho
      refine Rn.if_eq (tgt := 57) dX3_readsAny_29 (by decide) (fun h9 => absurd h9 (by decide)) (fun _ => ?_)
      refine Rn.aload_n dX3_readsAny_32 rfl rfl ?_
      refine Rn.iload_n dX3_readsAny_33 rfl rfl ?_
      refine Rn.callV (As := [_]) dX3_readsAny_34 mv_X3_41 (by first | rfl | exact gC0 (by assumption) | exact gL0 (by assumption)) rfl rfl rfl (Nat.le_of_ble_eq_true rfl) (hg K (nx c e q) (hK.tx hT) (nx_le h2)) (fun _ _ h => h) (fun v J h => ?_)
      obtain ⟨K2, q2, hK2, rfl, hq2, ⟨hn, rfl⟩ | ⟨hn, rfl⟩⟩ := h
      · rw [gB_l hn] at ho
        refine Rn.if_ne (tgt := 42) dX3_readsAny_37 (by decide) (fun h9 => absurd h9 (by decide)) (fun _ => ?_)
        refine Rn.iconst (v := (nI 0)) dX3_readsAny_40 rfl ?_
        exact Rn.zret dX3_readsAny_41 rfl rfl (⟨K2, q2, hK.tr hK2, rfl, hq2, Or.inl ⟨ho.symm, rfl⟩⟩)
      · rw [gB_r hn] at ho
        refine Rn.if_ne (tgt := 42) dX3_readsAny_37 (by decide) (fun _ => ?_) (fun h9 => absurd h9 (by decide))
        refine Rn.aload_n dX3_readsAny_42 rfl rfl ?_
        refine Rn.getR dX3_readsAny_43 fd_X3_9_3 (by first | rfl | exact gC0 (by assumption) | exact gL0 (by assumption)) rfl ?_
        refine Rn.bipush (v := (-13)) dX3_readsAny_46 rfl ?_
        refine Rn.callV (As := [_]) dX3_readsAny_48 mv_X3_44 (by first | rfl | exact gC0 (by assumption) | exact gL0 (by assumption)) rfl rfl rfl (Nat.le_of_ble_eq_true rfl) (ct_addS G (d + 2) K2 _ q2) (fun _ _ h => h) (fun v J h => ?_)
        obtain ⟨rfl, K3, hK3, rfl⟩ := h
        refine Rn.iincN dX3_readsAny_51 rfl (by decide) ?_
        refine Rn.goto 12 dX3_readsAny_54 (by decide) ?_
        exact ih (i + 1) q2 K3 (by omega) hq2 (hK.tr (hK2.tr hK3)) ho
theorem cl_Any (dep : Nat) (g : Nat → Go) (hg : RdL G c e mX3_readsAll (d + 2) dep g) : RdL G c e mX3_readsAny (d + 3) dep (fun q => gB (g q) (gLoop c e 498 g 400)) := by
  intro I q hT hq
  refine Ct.mk [some (.ref 38), some (.int (nI dep)), none] ?_
  refine Rn.aload_n dX3_readsAny_0 rfl rfl ?_
  refine Rn.iload_n dX3_readsAny_1 rfl rfl ?_
  refine Rn.callV (As := [_]) dX3_readsAny_2 mv_X3_41 (by first | rfl | exact gC0 (by assumption) | exact gL0 (by assumption)) rfl rfl rfl (Nat.le_of_ble_eq_true rfl) (hg I q hT hq) (fun _ _ h => h) (fun v J h => ?_)
  obtain ⟨K2, q2, hK2, rfl, hq2, ⟨hn, rfl⟩ | ⟨hn, rfl⟩⟩ := h
  · refine Rn.if_ne (tgt := 10) dX3_readsAny_5 (by decide) (fun h9 => absurd h9 (by decide)) (fun _ => ?_)
    refine Rn.iconst (v := (nI 0)) dX3_readsAny_8 rfl ?_
    exact Rn.zret dX3_readsAny_9 rfl rfl (⟨K2, q2, hK2, rfl, hq2, Or.inl ⟨gB_l hn, rfl⟩⟩)
  · refine Rn.if_ne (tgt := 10) dX3_readsAny_5 (by decide) (fun _ => ?_) (fun h9 => absurd h9 (by decide))
    refine Rn.iconst (v := (nI 0)) dX3_readsAny_10 rfl ?_
    refine Rn.istore_n dX3_readsAny_11 rfl (by decide) ?_
    exact cl_lAny G d I hT dep g hg _ 400 0 q2 K2 rfl hq2 hK2 (gB_r hn).symm
end Cl6
