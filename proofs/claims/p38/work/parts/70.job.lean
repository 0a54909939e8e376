theorem dX10_jobAt_0 : decode cX10_jobAt 0 = .ok (.iload_n 0, 1) := by decide +kernel
theorem dX10_jobAt_1 : decode cX10_jobAt 1 = .ok (.bipush 8, 2) := by decide +kernel
theorem dX10_jobAt_3 : decode cX10_jobAt 3 = .ok (.ishl, 1) := by decide +kernel
theorem dX10_jobAt_4 : decode cX10_jobAt 4 = .ok (.iload_n 1, 1) := by decide +kernel
theorem dX10_jobAt_5 : decode cX10_jobAt 5 = .ok (.iadd, 1) := by decide +kernel
theorem dX10_jobAt_6 : decode cX10_jobAt 6 = .ok (.ireturn, 1) := by decide +kernel
theorem dX10_jobBy_0 : decode cX10_jobBy 0 = .ok (.iload_n 2, 1) := by decide +kernel
theorem dX10_jobBy_1 : decode cX10_jobBy 1 = .ok (.iload 4, 2) := by decide +kernel
theorem dX10_jobBy_3 : decode cX10_jobBy 3 = .ok (.invokestatic 350, 3) := by decide +kernel
theorem dX10_jobBy_6 : decode cX10_jobBy 6 = .ok (.ifCond .ne 13, 3) := by decide +kernel
theorem dX10_jobBy_19 : decode cX10_jobBy 19 = .ok (.ldc_w 365, 3) := by decide +kernel
theorem dX10_jobBy_22 : decode cX10_jobBy 22 = .ok (.goto 28, 3) := by decide +kernel
theorem dX10_jobBy_50 : decode cX10_jobBy 50 = .ok (.ireturn, 1) := by decide +kernel
theorem dX10_jobBy_9 : decode cX10_jobBy 9 = .ok (.aload_n 0, 1) := by decide +kernel
theorem dX10_jobBy_10 : decode cX10_jobBy 10 = .ok (.iload 4, 2) := by decide +kernel
theorem dX10_jobBy_12 : decode cX10_jobBy 12 = .ok (.iload_n 3, 1) := by decide +kernel
theorem dX10_jobBy_13 : decode cX10_jobBy 13 = .ok (.invokevirtual 339, 3) := by decide +kernel
theorem dX10_jobBy_16 : decode cX10_jobBy 16 = .ok (.ifCond .ne 9, 3) := by decide +kernel
theorem dX10_jobBy_25 : decode cX10_jobBy 25 = .ok (.aload_n 0, 1) := by decide +kernel
theorem dX10_jobBy_26 : decode cX10_jobBy 26 = .ok (.iload_n 3, 1) := by decide +kernel
theorem dX10_jobBy_27 : decode cX10_jobBy 27 = .ok (.iload 4, 2) := by decide +kernel
theorem dX10_jobBy_29 : decode cX10_jobBy 29 = .ok (.invokevirtual 290, 3) := by decide +kernel
theorem dX10_jobBy_32 : decode cX10_jobBy 32 = .ok (.aload_n 0, 1) := by decide +kernel
theorem dX10_jobBy_33 : decode cX10_jobBy 33 = .ok (.getfield 51, 3) := by decide +kernel
theorem dX10_jobBy_36 : decode cX10_jobBy 36 = .ok (.iload_n 1, 1) := by decide +kernel
theorem dX10_jobBy_37 : decode cX10_jobBy 37 = .ok (.iconst 1, 1) := by decide +kernel
theorem dX10_jobBy_38 : decode cX10_jobBy 38 = .ok (.iadd, 1) := by decide +kernel
theorem dX10_jobBy_39 : decode cX10_jobBy 39 = .ok (.iload_n 2, 1) := by decide +kernel
theorem dX10_jobBy_40 : decode cX10_jobBy 40 = .ok (.iconst 1, 1) := by decide +kernel
theorem dX10_jobBy_41 : decode cX10_jobBy 41 = .ok (.iload 4, 2) := by decide +kernel
theorem dX10_jobBy_43 : decode cX10_jobBy 43 = .ok (.ishl, 1) := by decide +kernel
theorem dX10_jobBy_44 : decode cX10_jobBy 44 = .ok (.ior, 1) := by decide +kernel
theorem dX10_jobBy_45 : decode cX10_jobBy 45 = .ok (.invokestatic 378, 3) := by decide +kernel
theorem dX10_jobBy_48 : decode cX10_jobBy 48 = .ok (.iaload, 1) := by decide +kernel
theorem dX10_jobBy_49 : decode cX10_jobBy 49 = .ok (.iadd, 1) := by decide +kernel
theorem dX10_laysJobs_51 : decode cX10_laysJobs 51 = .ok (.iload 5, 2) := by decide +kernel
theorem dX10_laysJobs_53 : decode cX10_laysJobs 53 = .ok (.aload_n 0, 1) := by decide +kernel
theorem dX10_laysJobs_54 : decode cX10_laysJobs 54 = .ok (.invokevirtual 82, 3) := by decide +kernel
theorem dX10_laysJobs_57 : decode cX10_laysJobs 57 = .ok (.if_icmp .ge 30, 3) := by decide +kernel
theorem dX10_laysJobs_60 : decode cX10_laysJobs 60 = .ok (.iload 4, 2) := by decide +kernel
theorem dX10_laysJobs_62 : decode cX10_laysJobs 62 = .ok (.aload_n 0, 1) := by decide +kernel
theorem dX10_laysJobs_63 : decode cX10_laysJobs 63 = .ok (.iload_n 2, 1) := by decide +kernel
theorem dX10_laysJobs_64 : decode cX10_laysJobs 64 = .ok (.iload_n 3, 1) := by decide +kernel
theorem dX10_laysJobs_65 : decode cX10_laysJobs 65 = .ok (.aload_n 0, 1) := by decide +kernel
theorem dX10_laysJobs_66 : decode cX10_laysJobs 66 = .ok (.getfield 45, 3) := by decide +kernel
theorem dX10_laysJobs_69 : decode cX10_laysJobs 69 = .ok (.iload_n 2, 1) := by decide +kernel
theorem dX10_laysJobs_70 : decode cX10_laysJobs 70 = .ok (.iaload, 1) := by decide +kernel
theorem dX10_laysJobs_71 : decode cX10_laysJobs 71 = .ok (.iload 5, 2) := by decide +kernel
theorem dX10_laysJobs_73 : decode cX10_laysJobs 73 = .ok (.invokevirtual 381, 3) := by decide +kernel
theorem dX10_laysJobs_76 : decode cX10_laysJobs 76 = .ok (.invokestatic 372, 3) := by decide +kernel
theorem dX10_laysJobs_79 : decode cX10_laysJobs 79 = .ok (.istore 4, 2) := by decide +kernel
theorem dX10_laysJobs_81 : decode cX10_laysJobs 81 = .ok (.iinc 5 1, 3) := by decide +kernel
theorem dX10_laysJobs_84 : decode cX10_laysJobs 84 = .ok (.goto (-33), 3) := by decide +kernel
theorem dX10_laysJobs_36 : decode cX10_laysJobs 36 = .ok (.iload_n 3, 1) := by decide +kernel
theorem dX10_laysJobs_37 : decode cX10_laysJobs 37 = .ok (.sipush 256, 3) := by decide +kernel
theorem dX10_laysJobs_40 : decode cX10_laysJobs 40 = .ok (.if_icmp .ge 79, 3) := by decide +kernel
theorem dX10_laysJobs_43 : decode cX10_laysJobs 43 = .ok (.ldc_w 365, 3) := by decide +kernel
theorem dX10_laysJobs_46 : decode cX10_laysJobs 46 = .ok (.istore 4, 2) := by decide +kernel
theorem dX10_laysJobs_48 : decode cX10_laysJobs 48 = .ok (.iconst 0, 1) := by decide +kernel
theorem dX10_laysJobs_49 : decode cX10_laysJobs 49 = .ok (.istore 5, 2) := by decide +kernel
theorem dX10_laysJobs_87 : decode cX10_laysJobs 87 = .ok (.aload_n 0, 1) := by decide +kernel
theorem dX10_laysJobs_88 : decode cX10_laysJobs 88 = .ok (.getfield 51, 3) := by decide +kernel
theorem dX10_laysJobs_91 : decode cX10_laysJobs 91 = .ok (.iload_n 2, 1) := by decide +kernel
theorem dX10_laysJobs_92 : decode cX10_laysJobs 92 = .ok (.iload_n 3, 1) := by decide +kernel
theorem dX10_laysJobs_93 : decode cX10_laysJobs 93 = .ok (.invokestatic 378, 3) := by decide +kernel
theorem dX10_laysJobs_96 : decode cX10_laysJobs 96 = .ok (.iload 4, 2) := by decide +kernel
theorem dX10_laysJobs_98 : decode cX10_laysJobs 98 = .ok (.ldc_w 384, 3) := by decide +kernel
theorem dX10_laysJobs_101 : decode cX10_laysJobs 101 = .ok (.if_icmp .ge 9, 3) := by decide +kernel
theorem dX10_laysJobs_110 : decode cX10_laysJobs 110 = .ok (.iload 4, 2) := by decide +kernel
theorem dX10_laysJobs_112 : decode cX10_laysJobs 112 = .ok (.iastore, 1) := by decide +kernel
theorem dX10_laysJobs_113 : decode cX10_laysJobs 113 = .ok (.iinc 3 1, 3) := by decide +kernel
theorem dX10_laysJobs_116 : decode cX10_laysJobs 116 = .ok (.goto (-80), 3) := by decide +kernel
theorem dX10_laysJobs_104 : decode cX10_laysJobs 104 = .ok (.ldc_w 365, 3) := by decide +kernel
theorem dX10_laysJobs_107 : decode cX10_laysJobs 107 = .ok (.goto 5, 3) := by decide +kernel
theorem dX10_laysJobs_30 : decode cX10_laysJobs 30 = .ok (.iload_n 2, 1) := by decide +kernel
theorem dX10_laysJobs_31 : decode cX10_laysJobs 31 = .ok (.ifCond .lt 94, 3) := by decide +kernel
theorem dX10_laysJobs_34 : decode cX10_laysJobs 34 = .ok (.iconst 0, 1) := by decide +kernel
theorem dX10_laysJobs_35 : decode cX10_laysJobs 35 = .ok (.istore_n 3, 1) := by decide +kernel
theorem dX10_laysJobs_119 : decode cX10_laysJobs 119 = .ok (.iinc 2 (-1), 3) := by decide +kernel
theorem dX10_laysJobs_122 : decode cX10_laysJobs 122 = .ok (.goto (-92), 3) := by decide +kernel
theorem dX10_laysJobs_2 : decode cX10_laysJobs 2 = .ok (.iload_n 2, 1) := by decide +kernel
theorem dX10_laysJobs_3 : decode cX10_laysJobs 3 = .ok (.sipush 256, 3) := by decide +kernel
theorem dX10_laysJobs_6 : decode cX10_laysJobs 6 = .ok (.if_icmp .ge 20, 3) := by decide +kernel
theorem dX10_laysJobs_9 : decode cX10_laysJobs 9 = .ok (.aload_n 0, 1) := by decide +kernel
theorem dX10_laysJobs_10 : decode cX10_laysJobs 10 = .ok (.getfield 51, 3) := by decide +kernel
theorem dX10_laysJobs_13 : decode cX10_laysJobs 13 = .ok (.iload_n 1, 1) := by decide +kernel
theorem dX10_laysJobs_14 : decode cX10_laysJobs 14 = .ok (.iload_n 2, 1) := by decide +kernel
theorem dX10_laysJobs_15 : decode cX10_laysJobs 15 = .ok (.invokestatic 378, 3) := by decide +kernel
theorem dX10_laysJobs_18 : decode cX10_laysJobs 18 = .ok (.iconst 0, 1) := by decide +kernel
theorem dX10_laysJobs_19 : decode cX10_laysJobs 19 = .ok (.iastore, 1) := by decide +kernel
theorem dX10_laysJobs_20 : decode cX10_laysJobs 20 = .ok (.iinc 2 1, 3) := by decide +kernel
theorem dX10_laysJobs_23 : decode cX10_laysJobs 23 = .ok (.goto (-21), 3) := by decide +kernel
theorem dX10_laysJobs_0 : decode cX10_laysJobs 0 = .ok (.iconst 0, 1) := by decide +kernel
theorem dX10_laysJobs_1 : decode cX10_laysJobs 1 = .ok (.istore_n 2, 1) := by decide +kernel
theorem dX10_laysJobs_26 : decode cX10_laysJobs 26 = .ok (.iload_n 1, 1) := by decide +kernel
theorem dX10_laysJobs_27 : decode cX10_laysJobs 27 = .ok (.iconst 1, 1) := by decide +kernel
theorem dX10_laysJobs_28 : decode cX10_laysJobs 28 = .ok (.isub, 1) := by decide +kernel
theorem dX10_laysJobs_29 : decode cX10_laysJobs 29 = .ok (.istore_n 2, 1) := by decide +kernel
theorem dX10_laysJobs_125 : decode cX10_laysJobs 125 = .ok (.return_, 1) := by decide +kernel
/-! laysJobs and match of the reference by hand: brides and things, by what is best -/
def orT (c t : Nat) : Nat := c ||| 2 ^ t
theorem orT_lt : ∀ c : Fin 256, ∀ t : Fin 8, orT c t < 256 := by decide +kernel
theorem orT_N : ∀ c : Fin 256, ∀ t : Fin 8, nI c ||| (nI 1 <<< (nI t &&& 31)) = nI (orT c t) := by decide +kernel
theorem shl8 : ∀ k : Fin 7, nI k <<< (nI 8 &&& 31) = nI (256 * k) := by decide +kernel
def mayB (W : Nat → Int32) (t w : Nat) : Bool := decide (¬ W (65 + 9 * t + 5) = -1 ∧ ¬ (W (65 + 9 * t + 7) = nI 1 ∧ ¬ W (65 + 9 * t + 5) = nI w))
def jobV (W T : Nat → Int32) (op bg en : Nat → Nat) (L k c w t : Nat) : Int32 := if (c.testBit t || !mayB W t w) = true then -1000000 else gainV W op bg en L w t + T (256 * (k + 1) + orT c t)
theorem zset3j (I : Hi) (g T h : Nat → Int32) : zset (zset (zset I 102 g) 106 T) 102 h = zset (zset I 102 h) 106 T := by
  funext k
  simp only [zset]
  by_cases e : k = 102
  · subst e; rfl
  · rw [if_neg e]
    by_cases e2 : k = 106
    · subst e2; rfl
    · rw [if_neg e2, if_neg e, if_neg e2, if_neg e]
section Job
variable (G : Gx) (d : Nat) (I : Hi) (op bg en : Nat → Nat) (L : Nat)
theorem ct_jobAt (k c : Nat) (hk : k < 7) : Ct G GAM mX10_jobAt d 0 [.int (nI k), .int (nI c)] I (Rp (some (.int (nI (256 * k + c)))) I) := by
  refine Ct.mk [some (.int (nI k)), some (.int (nI c))] ?_
  refine Rn.iload_n dX10_jobAt_0 rfl rfl ?_
  refine Rn.bipush (v := (nI 8)) dX10_jobAt_1 rfl ?_
  refine Rn.ishl dX10_jobAt_3 ?_
  refine Rn.topI (nI (256 * k)) (by exact shl8 ⟨k, hk⟩) ?_
  refine Rn.iload_n dX10_jobAt_4 rfl rfl ?_
  refine Rn.iadd dX10_jobAt_5 ?_
  exact Rn.iret dX10_jobAt_6 rfl (⟨by rw [nI_add], rfl⟩)
theorem ct_jobBy (k c w t : Nat) (hk : k < 5) (hc : c < 256) (hw : w < 8) (ht : t < 8) (hR : LawR (I 95) op bg en L) : Ct G GAM mX10_jobBy (d + 8) 0 [.ref 94, .int (nI k), .int (nI c), .int (nI w), .int (nI t)] I (Re (some (.int (jobV (I 95) (I 106) op bg en L k c w t))) I 102) := by
  refine Ct.mk [some (.ref 94), some (.int (nI k)), some (.int (nI c)), some (.int (nI w)), some (.int (nI t))] ?_
  have hb : decide ((nI c >>> (nI t &&& 31)) &&& nI 1 = nI 1) = c.testBit t := hasN ⟨c, hc⟩ ⟨t, ht⟩
  have ho := orT_lt ⟨c, hc⟩ ⟨t, ht⟩
  have ho : orT c t < 256 := ho
  refine Rn.iload_n dX10_jobBy_0 rfl rfl ?_
  refine Rn.iload dX10_jobBy_1 rfl ?_
  refine Rn.callSp (As := [_, _]) dX10_jobBy_3 ms_X10_350 rfl rfl (Nat.le_of_ble_eq_true rfl) (ct_has G _ _ _ _) ?_
  refine Rn.if_neB dX10_jobBy_6 19 (fun h1 => ?_) (fun h1 => ?_)
  · have h2 : c.testBit t = true := by rw [← hb]; exact decide_eq_true h1
    refine Rn.ldc_w dX10_jobBy_19 kc_X10_365 ?_
    refine Rn.goto 50 dX10_jobBy_22 (by decide) ?_
    exact Rn.iret dX10_jobBy_50 rfl (⟨by rw [jobV, if_pos (by rw [h2]; rfl)], I 102, (zset_self I 102).symm⟩)
  · have h2 : c.testBit t = false := by rw [← hb]; exact decide_eq_false h1
    refine Rn.aload_n dX10_jobBy_9 rfl rfl ?_
    refine Rn.iload dX10_jobBy_10 rfl ?_
    refine Rn.iload_n dX10_jobBy_12 rfl rfl ?_
    refine Rn.callVp (As := [_, _]) dX10_jobBy_13 mv_X10_339 (by first | rfl | exact gC0 (by assumption) | exact gL0 (by assumption)) rfl rfl rfl (Nat.le_of_ble_eq_true rfl) (ct_mayHave G _ _ _ _ (by omega)) ?_
    refine Rn.if_neB dX10_jobBy_16 25 (fun h3 => ?_) (fun h3 => ?_)
    · have h4 : mayB (I 95) t w = true := decide_eq_true h3
      refine Rn.aload_n dX10_jobBy_25 rfl rfl ?_
      refine Rn.iload_n dX10_jobBy_26 rfl rfl ?_
      refine Rn.iload dX10_jobBy_27 rfl ?_
      refine Rn.callVe (As := [_, _]) dX10_jobBy_29 mv_X10_290 (by first | rfl | exact gC0 (by assumption) | exact gL0 (by assumption)) rfl rfl rfl (Nat.le_of_ble_eq_true rfl) (ct_gainOf G _ _ op bg en L _ _ (by omega) (by omega) hR) (fun g => ?_)
      refine Rn.aload_n dX10_jobBy_32 rfl rfl ?_
      refine Rn.getR dX10_jobBy_33 fd_X10_51_9 (by first | rfl | exact gC0 (by assumption) | exact gL0 (by assumption)) rfl ?_
      refine Rn.iload_n dX10_jobBy_36 rfl rfl ?_
      refine Rn.iconst (v := (nI 1)) dX10_jobBy_37 rfl ?_
      refine Rn.iadd dX10_jobBy_38 ?_
      refine Rn.topI (nI (k + 1)) (nI_1 k) ?_
      refine Rn.iload_n dX10_jobBy_39 rfl rfl ?_
      refine Rn.iconst (v := (nI 1)) dX10_jobBy_40 rfl ?_
      refine Rn.iload dX10_jobBy_41 rfl ?_
      refine Rn.ishl dX10_jobBy_43 ?_
      refine Rn.ior dX10_jobBy_44 ?_
      refine Rn.topI (nI (orT c t)) (orT_N ⟨c, hc⟩ ⟨t, ht⟩) ?_
      refine Rn.callSp (As := [_, _]) dX10_jobBy_45 ms_X10_378 rfl rfl (Nat.le_of_ble_eq_true rfl) (ct_jobAt G _ _ _ _ (by omega)) ?_
      refine Rn.ialdN dX10_jobBy_48 (by first | rfl | exact gC1 (by assumption) | exact gC2 (by assumption) | exact gC3 (by assumption) | exact gL1 (by assumption) | exact gL2 (by assumption) | exact gL3 (by assumption) | exact gL4 (by assumption) | exact gL5 (by assumption) | exact gL6 (by assumption)) ?_
      refine Rn.iadd dX10_jobBy_49 ?_
      exact Rn.iret dX10_jobBy_50 rfl (⟨by rw [jobV, if_neg (by rw [h2, h4]; decide)]; rfl, g, rfl⟩)
    · have h4 : mayB (I 95) t w = false := decide_eq_false h3
      refine Rn.ldc_w dX10_jobBy_19 kc_X10_365 ?_
      refine Rn.goto 50 dX10_jobBy_22 (by decide) ?_
      exact Rn.iret dX10_jobBy_50 rfl (⟨by rw [jobV, if_pos (by rw [h4]; exact Bool.or_true _)], I 102, (zset_self I 102).symm⟩)
def cellK (W T : Nat → Int32) (op bg en : Nat → Nat) (L N k c w : Nat) : Prop := T (256 * k + c) = -1000000 ∨ (-500000 ≤ (T (256 * k + c)).toInt ∧ ∃ t, t < N ∧ jobV W T op bg en L k c w t = T (256 * k + c))
def rowsK (W T : Nat → Int32) (op bg en : Nat → Nat) (L N n k : Nat) (r : Nat → Nat) : Prop := ∀ k', k ≤ k' → k' < n → ∀ c, c < 256 → cellK W T op bg en L N k' c (r k')
theorem jobV_upd {W T : Nat → Int32} {L k c w t j : Nat} {v : Int32} (hj : j < 256 * (k + 1)) : jobV W (upd T j v) op bg en L k c w t = jobV W T op bg en L k c w t := by
  unfold jobV
  rw [upd_ne _ _ (by omega)]
theorem cellK.up {W T : Nat → Int32} {L N k c w j : Nat} {v : Int32} (hj : j < 256 * (k + 1)) (hn : 256 * k + c ≠ j) (h : cellK W T op bg en L N k c w) : cellK W (upd T j v) op bg en L N k c w := by
  unfold cellK at h ⊢
  rw [upd_ne _ _ hn]
  refine h.imp id (fun ⟨h1, t, h2, h3⟩ => ⟨h1, t, h2, ?_⟩)
  rw [jobV_upd op bg en hj]
  exact h3
theorem lp_lj3 {kx : Kx} {b : Nat} (N k c w : Nat) (hk : k < 5) (hc : c < 256) (hw : w < 8) (hN : N ≤ 8) (h1 : I 95 1 = nI N) (hrow : I 104 k = nI w) (hR : LawR (I 95) op bg en L) (T : Nat → Int32) (x1 : Option Value)
    (kk : ∀ (g : Nat → Int32) (most : Int32), (most = -1000000 ∨ ∃ t, t < N ∧ jobV (I 95) T op bg en L k c w t = most) → Rn G GAM mX10_laysJobs kx (d + 9) b 87 [some (.ref 94), x1, some (.int (nI k)), some (.int (nI c)), some (.int most), some (.int (nI N))] [] (zset (zset I 102 g) 106 T)) :
    ∀ (m t : Nat) (g : Nat → Int32) (most : Int32), t + m = N → (most = -1000000 ∨ ∃ t', t' < t ∧ jobV (I 95) T op bg en L k c w t' = most) → Rn G GAM mX10_laysJobs kx (d + 9) b 51 [some (.ref 94), x1, some (.int (nI k)), some (.int (nI c)), some (.int most), some (.int (nI t))] [] (zset (zset I 102 g) 106 T) := by
  intro m
  induction m with
  | zero =>
    intro t g most ht hm
    obtain rfl : t = N := by omega
    refine Rn.iload dX10_laysJobs_51 rfl ?_
    refine Rn.aload_n dX10_laysJobs_53 rfl rfl ?_
    refine Rn.callVp (As := []) dX10_laysJobs_54 mv_X10_82 (by first | rfl | exact gC0 (by assumption) | exact gL0 (by assumption)) rfl rfl rfl (Nat.le_of_ble_eq_true rfl) (ct_things G _ _) ?_
    refine Rn.topI (nI t) (by exact h1) ?_
    refine Rn.icmp_geN dX10_laysJobs_57 87 (fun _ => ?_) (fun h9 => by exfalso; omega)
    exact kk g most hm
  | succ m ih =>
    intro t g most ht hm
    refine Rn.iload dX10_laysJobs_51 rfl ?_
    refine Rn.aload_n dX10_laysJobs_53 rfl rfl ?_
    refine Rn.callVp (As := []) dX10_laysJobs_54 mv_X10_82 (by first | rfl | exact gC0 (by assumption) | exact gL0 (by assumption)) rfl rfl rfl (Nat.le_of_ble_eq_true rfl) (ct_things G _ _) ?_
    refine Rn.topI (nI N) (by exact h1) ?_
    refine Rn.icmp_geN dX10_laysJobs_57 87 (fun h9 => by exfalso; omega) (fun _ => ?_)
    refine Rn.iload dX10_laysJobs_60 rfl ?_
    refine Rn.aload_n dX10_laysJobs_62 rfl rfl ?_
    refine Rn.iload_n dX10_laysJobs_63 rfl rfl ?_
    refine Rn.iload_n dX10_laysJobs_64 rfl rfl ?_
    refine Rn.aload_n dX10_laysJobs_65 rfl rfl ?_
    refine Rn.getR dX10_laysJobs_66 fd_X10_45_9 (by first | rfl | exact gC0 (by assumption) | exact gL0 (by assumption)) rfl ?_
    refine Rn.iload_n dX10_laysJobs_69 rfl rfl ?_
    refine Rn.ialdN dX10_laysJobs_70 (by first | rfl | exact gC1 (by assumption) | exact gC2 (by assumption) | exact gC3 (by assumption) | exact gL1 (by assumption) | exact gL2 (by assumption) | exact gL3 (by assumption) | exact gL4 (by assumption) | exact gL5 (by assumption) | exact gL6 (by assumption)) ?_
    refine Rn.topI (nI w) (by exact hrow) ?_
    refine Rn.iload dX10_laysJobs_71 rfl ?_
    refine Rn.callVe (As := [_, _, _, _]) dX10_laysJobs_73 mv_X10_381 (by first | rfl | exact gC0 (by assumption) | exact gL0 (by assumption)) rfl rfl rfl (Nat.le_of_ble_eq_true rfl) (ct_jobBy G _ _ op bg en L _ _ _ _ (by omega) (by omega) (by omega) (by omega) hR) (fun g2 => ?_)
    refine Rn.mmax dX10_laysJobs_76 ms_X10_372 (Nat.le_of_ble_eq_true rfl) ?_
    refine Rn.istore dX10_laysJobs_79 (by decide) ?_
    refine Rn.iincN dX10_laysJobs_81 rfl (by decide) ?_
    refine Rn.goto 51 dX10_laysJobs_84 (by decide) ?_
    refine Rn.hpp _ (zset3j I g T g2) (ih (t + 1) g2 _ (by omega) ?_)
    have hq : imax most (jobV (I 95) T op bg en L k c w t) = -1000000 ∨ ∃ t', t' < t + 1 ∧ jobV (I 95) T op bg en L k c w t' = imax most (jobV (I 95) T op bg en L k c w t) := by
      unfold imax
      split
      · exact Or.inr ⟨t, by omega, rfl⟩
      · exact hm.imp id (fun ⟨t', h2, h3⟩ => ⟨t', by omega, h3⟩)
    exact hq
theorem lp_lj2 {kx : Kx} {b : Nat} (N n k w : Nat) (r : Nat → Nat) (hk : k < 5) (hw : w < 8) (hrk : r k = w) (hN : N ≤ 8) (h1 : I 95 1 = nI N) (hrow : I 104 k = nI w) (hR : LawR (I 95) op bg en L) (x1 : Option Value)
    (kk : ∀ (g T : Nat → Int32) (x4 x5 : Option Value), rowsK (I 95) T op bg en L N n k r → Rn G GAM mX10_laysJobs kx (d + 9) b 119 [some (.ref 94), x1, some (.int (nI k)), some (.int (nI 256)), x4, x5] [] (zset (zset I 102 g) 106 T)) :
    ∀ (m c : Nat) (g T : Nat → Int32) (x4 x5 : Option Value), c + m = 256 → rowsK (I 95) T op bg en L N n (k + 1) r → (∀ c', c' < c → cellK (I 95) T op bg en L N k c' w) → Rn G GAM mX10_laysJobs kx (d + 9) b 36 [some (.ref 94), x1, some (.int (nI k)), some (.int (nI c)), x4, x5] [] (zset (zset I 102 g) 106 T) := by
  intro m
  induction m with
  | zero =>
    intro c g T x4 x5 hc h2 h3
    obtain rfl : c = 256 := by omega
    refine Rn.iload_n dX10_laysJobs_36 rfl rfl ?_
    refine Rn.sipush (v := (nI 256)) dX10_laysJobs_37 rfl ?_
    refine Rn.icmp_geN dX10_laysJobs_40 119 (fun _ => ?_) (fun h9 => by exfalso; omega)
    refine kk g T _ _ (fun k' q1 q2 c' q3 => ?_)
    by_cases e : k' = k
    · subst e
      rw [hrk]
      exact h3 c' q3
    · exact h2 k' (by omega) q2 c' q3
  | succ m ih =>
    intro c g T x4 x5 hc h2 h3
    refine Rn.iload_n dX10_laysJobs_36 rfl rfl ?_
    refine Rn.sipush (v := (nI 256)) dX10_laysJobs_37 rfl ?_
    refine Rn.icmp_geN dX10_laysJobs_40 119 (fun h9 => by exfalso; omega) (fun _ => ?_)
    refine Rn.ldc_w dX10_laysJobs_43 kc_X10_365 ?_
    refine Rn.istore dX10_laysJobs_46 (by decide) ?_
    refine Rn.iconst (v := (nI 0)) dX10_laysJobs_48 rfl ?_
    refine Rn.istore dX10_laysJobs_49 (by decide) ?_
    refine lp_lj3 G d I op bg en L N k c w hk (by omega) hw hN h1 hrow hR T _ (fun g2 most hm => ?_) N 0 g (-1000000) (by omega) (Or.inl rfl)
    refine Rn.aload_n dX10_laysJobs_87 rfl rfl ?_
    refine Rn.getR dX10_laysJobs_88 fd_X10_51_9 (by first | rfl | exact gC0 (by assumption) | exact gL0 (by assumption)) rfl ?_
    refine Rn.iload_n dX10_laysJobs_91 rfl rfl ?_
    refine Rn.iload_n dX10_laysJobs_92 rfl rfl ?_
    refine Rn.callSp (As := [_, _]) dX10_laysJobs_93 ms_X10_378 rfl rfl (Nat.le_of_ble_eq_true rfl) (ct_jobAt G _ _ _ _ (by omega)) ?_
    refine Rn.iload dX10_laysJobs_96 rfl ?_
    refine Rn.ldc_w dX10_laysJobs_98 kc_X10_384 ?_
    refine Rn.icmp_ge (tgt := 110) dX10_laysJobs_101 (by decide) (fun h5 => ?_) (fun h5 => ?_)
    · have h5 : -500000 ≤ most.toInt := by
        have := Int32.le_iff_toInt_le.mp h5
        exact this
      refine Rn.iload dX10_laysJobs_110 rfl ?_
      refine Rn.iastN dX10_laysJobs_112 (by first | rfl | exact gC1 (by assumption) | exact gC2 (by assumption) | exact gC3 (by assumption) | exact gL1 (by assumption) | exact gL2 (by assumption) | exact gL3 (by assumption) | exact gL4 (by assumption) | exact gL5 (by assumption) | exact gL6 (by assumption)) ?_
      refine Rn.iincN dX10_laysJobs_113 rfl (by decide) ?_
      refine Rn.goto 36 dX10_laysJobs_116 (by decide) ?_
      refine Rn.hpp _ (zup_zset _ _ _ _ _) (ih (c + 1) g2 _ _ _ (by omega) (fun k' q1 q2 c' q3 => (h2 k' q1 q2 c' q3).up op bg en (by omega) (by omega)) (fun c' q => ?_))
      by_cases e : c' = c
      · subst e
        refine Or.inr ⟨?_, ?_⟩
        · rw [upd_at]; exact h5
        · rcases hm with hm | ⟨t, q1, q2⟩
          · rw [hm] at h5
            exact absurd h5 (by decide)
          · exact ⟨t, q1, by rw [jobV_upd op bg en (by omega), upd_at]; exact q2⟩
      · exact (h3 c' (by omega)).up op bg en (by omega) (by omega)
    · refine Rn.ldc_w dX10_laysJobs_104 kc_X10_365 ?_
      refine Rn.goto 112 dX10_laysJobs_107 (by decide) ?_
      refine Rn.iastN dX10_laysJobs_112 (by first | rfl | exact gC1 (by assumption) | exact gC2 (by assumption) | exact gC3 (by assumption) | exact gL1 (by assumption) | exact gL2 (by assumption) | exact gL3 (by assumption) | exact gL4 (by assumption) | exact gL5 (by assumption) | exact gL6 (by assumption)) ?_
      refine Rn.iincN dX10_laysJobs_113 rfl (by decide) ?_
      refine Rn.goto 36 dX10_laysJobs_116 (by decide) ?_
      refine Rn.hpp _ (zup_zset _ _ _ _ _) (ih (c + 1) g2 _ _ _ (by omega) (fun k' q1 q2 c' q3 => (h2 k' q1 q2 c' q3).up op bg en (by omega) (by omega)) (fun c' q => ?_))
      by_cases e : c' = c
      · subst e
        exact Or.inl (upd_at _ _ _)
      · exact (h3 c' (by omega)).up op bg en (by omega) (by omega)
theorem lp_lj1 {kx : Kx} {b : Nat} (N n : Nat) (r : Nat → Nat) (hn : n ≤ 5) (hr : ∀ k, k < n → r k < 8 ∧ I 104 k = nI (r k)) (hN : N ≤ 8) (h1 : I 95 1 = nI N) (hR : LawR (I 95) op bg en L) (x1 : Option Value)
    (kk : ∀ (g T : Nat → Int32) (x2 x3 x4 x5 : Option Value), rowsK (I 95) T op bg en L N n 0 r → Rn G GAM mX10_laysJobs kx (d + 9) b 125 [some (.ref 94), x1, x2, x3, x4, x5] [] (zset (zset I 102 g) 106 T)) :
    ∀ (k : Nat) (z : Int32) (g T : Nat → Int32) (x3 x4 x5 : Option Value), k ≤ n → z = nI k - nI 1 → rowsK (I 95) T op bg en L N n k r → Rn G GAM mX10_laysJobs kx (d + 9) b 30 [some (.ref 94), x1, some (.int z), x3, x4, x5] [] (zset (zset I 102 g) 106 T) := by
  intro k
  induction k with
  | zero =>
    intro z g T x3 x4 x5 hk hz h2
    refine Rn.iload_n dX10_laysJobs_30 rfl rfl ?_
    refine Rn.if_lt (tgt := 125) dX10_laysJobs_31 (by decide) (fun h5 => ?_) (fun h5 => ?_)
    · exact kk g T _ _ _ _ h2
    · exact absurd (by rw [hz]; decide) h5
  | succ k ih =>
    intro z g T x3 x4 x5 hk hz h2
    obtain rfl : z = nI k := by rw [hz, ← nI_1]; exact Int32.add_sub_cancel _ _
    refine Rn.iload_n dX10_laysJobs_30 rfl rfl ?_
    refine Rn.if_ltN dX10_laysJobs_31 ?_ 125
    refine Rn.iconst (v := (nI 0)) dX10_laysJobs_34 rfl ?_
    refine Rn.istore_n dX10_laysJobs_35 rfl (by decide) ?_
    refine lp_lj2 G d I op bg en L N n k (r k) r (by omega) (hr k (by omega)).1 rfl hN h1 (hr k (by omega)).2 hR _ (fun g2 T2 x4 x5 h3 => ?_) 256 0 g T _ _ rfl h2 (fun c' q => absurd q (by omega))
    refine Rn.iinc (v := nI k - nI 1) dX10_laysJobs_119 rfl (by rw [Int32.sub_eq_add_neg]; rfl) (by decide) ?_
    refine Rn.goto 30 dX10_laysJobs_122 (by decide) ?_
    exact ih _ g2 T2 _ _ _ (by omega) rfl h3
theorem lp_lj0 {kx : Kx} {b : Nat} (n : Nat) (hn : n ≤ 5)
    (kk : ∀ (T : Nat → Int32) (x2 : Option Value), Rn G GAM mX10_laysJobs kx (d + 9) b 26 [some (.ref 94), some (.int (nI n)), x2, none, none, none] [] (zset I 106 T)) :
    ∀ (m c : Nat) (T : Nat → Int32), c + m = 256 → Rn G GAM mX10_laysJobs kx (d + 9) b 2 [some (.ref 94), some (.int (nI n)), some (.int (nI c)), none, none, none] [] (zset I 106 T) := by
  intro m
  induction m with
  | zero =>
    intro c T hc
    obtain rfl : c = 256 := by omega
    refine Rn.iload_n dX10_laysJobs_2 rfl rfl ?_
    refine Rn.sipush (v := (nI 256)) dX10_laysJobs_3 rfl ?_
    refine Rn.icmp_geN dX10_laysJobs_6 26 (fun _ => ?_) (fun h9 => by exfalso; omega)
    exact kk T _
  | succ m ih =>
    intro c T hc
    refine Rn.iload_n dX10_laysJobs_2 rfl rfl ?_
    refine Rn.sipush (v := (nI 256)) dX10_laysJobs_3 rfl ?_
    refine Rn.icmp_geN dX10_laysJobs_6 26 (fun h9 => by exfalso; omega) (fun _ => ?_)
    refine Rn.aload_n dX10_laysJobs_9 rfl rfl ?_
    refine Rn.getR dX10_laysJobs_10 fd_X10_51_9 (by first | rfl | exact gC0 (by assumption) | exact gL0 (by assumption)) rfl ?_
    refine Rn.iload_n dX10_laysJobs_13 rfl rfl ?_
    refine Rn.iload_n dX10_laysJobs_14 rfl rfl ?_
    refine Rn.callSp (As := [_, _]) dX10_laysJobs_15 ms_X10_378 rfl rfl (Nat.le_of_ble_eq_true rfl) (ct_jobAt G _ _ _ _ (by omega)) ?_
    refine Rn.iconst (v := (nI 0)) dX10_laysJobs_18 rfl ?_
    refine Rn.iastN dX10_laysJobs_19 (by first | rfl | exact gC1 (by assumption) | exact gC2 (by assumption) | exact gC3 (by assumption) | exact gL1 (by assumption) | exact gL2 (by assumption) | exact gL3 (by assumption) | exact gL4 (by assumption) | exact gL5 (by assumption) | exact gL6 (by assumption)) ?_
    refine Rn.iincN dX10_laysJobs_20 rfl (by decide) ?_
    refine Rn.goto 2 dX10_laysJobs_23 (by decide) ?_
    exact Rn.hpp _ (zup_zset _ _ _ _ _) (ih (c + 1) _ (by omega))
theorem ct_laysJobs (N n : Nat) (r : Nat → Nat) (hn : n ≤ 5) (hr : ∀ k, k < n → r k < 8 ∧ I 104 k = nI (r k)) (hN : N ≤ 8) (h1 : I 95 1 = nI N) (hR : LawR (I 95) op bg en L) : Ct G GAM mX10_laysJobs (d + 9) 0 [.ref 94, .int (nI n)] I (fun o J => o = .inl none ∧ ∃ g T, J = zset (zset I 102 g) 106 T ∧ rowsK (I 95) T op bg en L N n 0 r) := by
  refine Ct.mk [some (.ref 94), some (.int (nI n)), none, none, none, none] ?_
  refine Rn.iconst (v := (nI 0)) dX10_laysJobs_0 rfl ?_
  refine Rn.istore_n dX10_laysJobs_1 rfl (by decide) ?_
  refine Rn.hpp _ (zset_self I 106).symm (lp_lj0 G d I n hn (fun T x2 => ?_) 256 0 (I 106) rfl)
  refine Rn.iload_n dX10_laysJobs_26 rfl rfl ?_
  refine Rn.iconst (v := (nI 1)) dX10_laysJobs_27 rfl ?_
  refine Rn.isub dX10_laysJobs_28 ?_
  refine Rn.istore_n dX10_laysJobs_29 rfl (by decide) ?_
  refine Rn.hpp (zset (zset I 102 (I 102)) 106 T) (by rw [zset_self]) (lp_lj1 G d I op bg en L N n r hn hr hN h1 hR _ (fun g T x2 x3 x4 x5 h2 => ?_) n _ (I 102) T _ _ _ (Nat.le_refl _) rfl (fun k' q1 q2 => absurd q2 (by omega)))
  exact Rn.vret dX10_laysJobs_125 rfl (⟨rfl, g, T, rfl, h2⟩)
end Job
