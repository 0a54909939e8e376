def cp (f g : Nat → Int32) (i : Nat) : Nat → Int32 := fun k => if k < i then f k else g k
theorem cp_upd (f g : Nat → Int32) (i : Nat) : upd (cp f g i) i (f i) = cp f g (i + 1) := by
  funext k
  simp only [upd, cp]
  by_cases h : k = i
  · subst h; simp
  · rw [if_neg h]
    by_cases h2 : k < i
    · rw [if_pos h2, if_pos (by omega)]
    · rw [if_neg h2, if_neg (by omega)]
theorem cp_0 (f g : Nat → Int32) : cp f g 0 = g := by funext k; simp [cp]
theorem zup_zset (I : Hi) (a j : Nat) (g : Nat → Int32) (v : Int32) : zup (zset I a g) a j v = zset I a (upd g j v) := by
  funext k
  simp only [zup, zset]
  by_cases h : k = a <;> simp [h]
theorem zset_zset (I : Hi) (a : Nat) (g h : Nat → Int32) : zset (zset I a g) a h = zset I a h := by
  funext k
  simp only [zset]
  by_cases q : k = a <;> simp [q]
theorem zset_self (I : Hi) (a : Nat) : zset I a (I a) = I := by
  funext k
  simp only [zset]
  by_cases q : k = a <;> simp [q]
theorem zset_at (I : Hi) (a : Nat) (g : Nat → Int32) : zset I a g a = g := by simp [zset]
theorem zset_ne (I : Hi) {a b : Nat} (g : Nat → Int32) (h : b ≠ a) : zset I a g b = I b := by simp [zset, h]
theorem cp_start (J : Hi) (a : Nat) (f : Nat → Int32) : J = zset J a (cp f (J a) 0) := by rw [cp_0, zset_self]
section RefB
variable (G : Gx) (d : Nat) (I : Hi)
theorem ct_things : Ct G GAM mX10_things d 0 [.ref 94] I (Rp (some (.int (I 95 1))) I) := by
  refine Ct.mk [some (.ref 94)] ?_
  refine Rn.aload_n dX10_things_0 rfl rfl ?_
  refine Rn.getR dX10_things_1 fd_X10_13_9 (by first | rfl | exact gC0 (by assumption) | exact gL0 (by assumption)) rfl ?_
  refine Rn.iconst (v := (nI 1)) dX10_things_4 rfl ?_
  refine Rn.ialdN dX10_things_5 (by first | rfl | exact gC1 (by assumption) | exact gC2 (by assumption) | exact gC3 (by assumption) | exact gL1 (by assumption) | exact gL2 (by assumption) | exact gL3 (by assumption) | exact gL4 (by assumption) | exact gL5 (by assumption) | exact gL6 (by assumption)) ?_
  exact Rn.iret dX10_things_6 rfl (⟨rfl, rfl⟩)
theorem ct_thingAt (w k : Nat) : Ct G GAM mX10_thingAt d 0 [.int (nI w), .int (nI k)] I (Rp (some (.int (nI (65 + 9 * w + k)))) I) := by
  refine Ct.mk [some (.int (nI w)), some (.int (nI k))] ?_
  refine Rn.bipush (v := (nI 65)) dX10_thingAt_0 rfl ?_
  refine Rn.bipush (v := (nI 9)) dX10_thingAt_2 rfl ?_
  refine Rn.iload_n dX10_thingAt_4 rfl rfl ?_
  refine Rn.imul dX10_thingAt_5 ?_
  refine Rn.iadd dX10_thingAt_6 ?_
  refine Rn.iload_n dX10_thingAt_7 rfl rfl ?_
  refine Rn.iadd dX10_thingAt_8 ?_
  exact Rn.iret dX10_thingAt_9 rfl (⟨by simp only [nI_add, pk_mul], rfl⟩)
theorem ct_ofThing (w k : Nat) (h : 65 + 9 * w + k < 2075) : Ct G GAM mX10_ofThing (d + 1) 0 [.ref 94, .int (nI w), .int (nI k)] I (Rp (some (.int (I 95 (65 + 9 * w + k)))) I) := by
  refine Ct.mk [some (.ref 94), some (.int (nI w)), some (.int (nI k))] ?_
  refine Rn.aload_n dX10_ofThing_0 rfl rfl ?_
  refine Rn.getR dX10_ofThing_1 fd_X10_13_9 (by first | rfl | exact gC0 (by assumption) | exact gL0 (by assumption)) rfl ?_
  refine Rn.iload_n dX10_ofThing_4 rfl rfl ?_
  refine Rn.iload_n dX10_ofThing_5 rfl rfl ?_
  refine Rn.callSp (As := [_, _]) dX10_ofThing_6 ms_X10_68 rfl rfl (Nat.le_of_ble_eq_true rfl) (ct_thingAt G _ _ _ _) ?_
  refine Rn.ialdN dX10_ofThing_9 (by first | rfl | exact gC1 (by assumption) | exact gC2 (by assumption) | exact gC3 (by assumption) | exact gL1 (by assumption) | exact gL2 (by assumption) | exact gL3 (by assumption) | exact gL4 (by assumption) | exact gL5 (by assumption) | exact gL6 (by assumption)) ?_
  exact Rn.iret dX10_ofThing_10 rfl (⟨rfl, rfl⟩)
theorem ct_isPawned (t : Nat) (h : t < 8) : Ct G GAM mX10_isPawned (d + 2) 0 [.ref 94, .int (nI t)] I (Rp (some (.int (bI (I 95 (65 + 9 * t + 5) = -1)))) I) := by
  refine Ct.mk [some (.ref 94), some (.int (nI t))] ?_
  refine Rn.aload_n dX10_isPawned_0 rfl rfl ?_
  refine Rn.iload_n dX10_isPawned_1 rfl rfl ?_
  refine Rn.iconst (v := (nI 5)) dX10_isPawned_2 rfl ?_
  refine Rn.callVp (As := [_, _]) dX10_isPawned_3 mv_X10_71 (by first | rfl | exact gC0 (by assumption) | exact gL0 (by assumption)) rfl rfl rfl (Nat.le_of_ble_eq_true rfl) (ct_ofThing G _ _ _ _ (by omega)) ?_
  refine Rn.iconst (v := (-1)) dX10_isPawned_6 rfl ?_
  refine Rn.icmp_ne (tgt := 14) dX10_isPawned_7 (by decide) (fun h1 => ?_) (fun h1 => ?_)
  · refine Rn.iconst (v := (nI 0)) dX10_isPawned_14 rfl ?_
    exact Rn.zret dX10_isPawned_15 rfl rfl (⟨by rw [bI_f h1]; rfl, rfl⟩)
  · refine Rn.iconst (v := (nI 1)) dX10_isPawned_10 rfl ?_
    refine Rn.goto 15 dX10_isPawned_11 (by decide) ?_
    exact Rn.zret dX10_isPawned_15 rfl rfl (⟨by rw [bI_t h1]; rfl, rfl⟩)
theorem ct_isStuck (t : Nat) (h : t < 8) : Ct G GAM mX10_isStuck (d + 2) 0 [.ref 94, .int (nI t)] I (Rp (some (.int (bI (I 95 (65 + 9 * t + 7) = nI 1)))) I) := by
  refine Ct.mk [some (.ref 94), some (.int (nI t))] ?_
  refine Rn.aload_n dX10_isStuck_0 rfl rfl ?_
  refine Rn.iload_n dX10_isStuck_1 rfl rfl ?_
  refine Rn.bipush (v := (nI 7)) dX10_isStuck_2 rfl ?_
  refine Rn.callVp (As := [_, _]) dX10_isStuck_4 mv_X10_71 (by first | rfl | exact gC0 (by assumption) | exact gL0 (by assumption)) rfl rfl rfl (Nat.le_of_ble_eq_true rfl) (ct_ofThing G _ _ _ _ (by omega)) ?_
  refine Rn.iconst (v := (nI 1)) dX10_isStuck_7 rfl ?_
  refine Rn.icmp_ne (tgt := 15) dX10_isStuck_8 (by decide) (fun h1 => ?_) (fun h1 => ?_)
  · refine Rn.iconst (v := (nI 0)) dX10_isStuck_15 rfl ?_
    exact Rn.zret dX10_isStuck_16 rfl rfl (⟨by rw [bI_f h1]; rfl, rfl⟩)
  · refine Rn.iconst (v := (nI 1)) dX10_isStuck_11 rfl ?_
    refine Rn.goto 16 dX10_isStuck_12 (by decide) ?_
    exact Rn.zret dX10_isStuck_16 rfl rfl (⟨by rw [bI_t h1]; rfl, rfl⟩)
theorem ct_isWidow (t : Nat) (h : t < 8) : Ct G GAM mX10_isWidow (d + 2) 0 [.ref 94, .int (nI t)] I (Rp (some (.int (bI (I 95 (9 + 7 * t + 6) = nI 1)))) I) := by
  refine Ct.mk [some (.ref 94), some (.int (nI t))] ?_
  refine Rn.aload_n dX10_isWidow_0 rfl rfl ?_
  refine Rn.iload_n dX10_isWidow_1 rfl rfl ?_
  refine Rn.bipush (v := (nI 6)) dX10_isWidow_2 rfl ?_
  refine Rn.callVp (As := [_, _]) dX10_isWidow_4 mv_X10_65 (by first | rfl | exact gC0 (by assumption) | exact gL0 (by assumption)) rfl rfl rfl (Nat.le_of_ble_eq_true rfl) (ct_of G _ _ _ _ (by omega)) ?_
  refine Rn.iconst (v := (nI 1)) dX10_isWidow_7 rfl ?_
  refine Rn.icmp_ne (tgt := 15) dX10_isWidow_8 (by decide) (fun h1 => ?_) (fun h1 => ?_)
  · refine Rn.iconst (v := (nI 0)) dX10_isWidow_15 rfl ?_
    exact Rn.zret dX10_isWidow_16 rfl rfl (⟨by rw [bI_f h1]; rfl, rfl⟩)
  · refine Rn.iconst (v := (nI 1)) dX10_isWidow_11 rfl ?_
    refine Rn.goto 16 dX10_isWidow_12 (by decide) ?_
    exact Rn.zret dX10_isWidow_16 rfl rfl (⟨by rw [bI_t h1]; rfl, rfl⟩)
theorem ct_noWoman (w : Int32) : Ct G GAM mX10_noWoman (d + 1) 0 [.ref 94, .int w] I (Rp (some (.int (bI (¬ (nI 0 ≤ w ∧ w ≤ I 95 0 - nI 1))))) I) := by
  refine Ct.mk [some (.ref 94), some (.int w)] ?_
  refine Rn.iload_n dX10_noWoman_0 rfl rfl ?_
  refine Rn.iconst (v := (nI 0)) dX10_noWoman_1 rfl ?_
  refine Rn.aload_n dX10_noWoman_2 rfl rfl ?_
  refine Rn.callVp (As := []) dX10_noWoman_3 mv_X10_74 (by first | rfl | exact gC0 (by assumption) | exact gL0 (by assumption)) rfl rfl rfl (Nat.le_of_ble_eq_true rfl) (ct_women G _ _) ?_
  refine Rn.iconst (v := (nI 1)) dX10_noWoman_6 rfl ?_
  refine Rn.isub dX10_noWoman_7 ?_
  refine Rn.callSp (As := [_, _, _]) dX10_noWoman_8 ms_X10_78 rfl rfl (Nat.le_of_ble_eq_true rfl) (ct_in G _ _ _ _ _) ?_
  refine Rn.if_neB dX10_noWoman_11 18 (fun h1 => ?_) (fun h1 => ?_)
  · refine Rn.iconst (v := (nI 0)) dX10_noWoman_18 rfl ?_
    exact Rn.zret dX10_noWoman_19 rfl rfl (⟨by rw [bI_f (fun q => q h1)]; rfl, rfl⟩)
  · refine Rn.iconst (v := (nI 1)) dX10_noWoman_14 rfl ?_
    refine Rn.goto 19 dX10_noWoman_15 (by decide) ?_
    exact Rn.zret dX10_noWoman_19 rfl rfl (⟨by rw [bI_t h1]; rfl, rfl⟩)
theorem ct_noThing (w : Int32) : Ct G GAM mX10_noThing (d + 1) 0 [.ref 94, .int w] I (Rp (some (.int (bI (¬ (nI 0 ≤ w ∧ w ≤ I 95 1 - nI 1))))) I) := by
  refine Ct.mk [some (.ref 94), some (.int w)] ?_
  refine Rn.iload_n dX10_noThing_0 rfl rfl ?_
  refine Rn.iconst (v := (nI 0)) dX10_noThing_1 rfl ?_
  refine Rn.aload_n dX10_noThing_2 rfl rfl ?_
  refine Rn.callVp (As := []) dX10_noThing_3 mv_X10_82 (by first | rfl | exact gC0 (by assumption) | exact gL0 (by assumption)) rfl rfl rfl (Nat.le_of_ble_eq_true rfl) (ct_things G _ _) ?_
  refine Rn.iconst (v := (nI 1)) dX10_noThing_6 rfl ?_
  refine Rn.isub dX10_noThing_7 ?_
  refine Rn.callSp (As := [_, _, _]) dX10_noThing_8 ms_X10_78 rfl rfl (Nat.le_of_ble_eq_true rfl) (ct_in G _ _ _ _ _) ?_
  refine Rn.if_neB dX10_noThing_11 18 (fun h1 => ?_) (fun h1 => ?_)
  · refine Rn.iconst (v := (nI 0)) dX10_noThing_18 rfl ?_
    exact Rn.zret dX10_noThing_19 rfl rfl (⟨by rw [bI_f (fun q => q h1)]; rfl, rfl⟩)
  · refine Rn.iconst (v := (nI 1)) dX10_noThing_14 rfl ?_
    refine Rn.goto 19 dX10_noThing_15 (by decide) ?_
    exact Rn.zret dX10_noThing_19 rfl rfl (⟨by rw [bI_t h1]; rfl, rfl⟩)
theorem ct_noSort (w : Int32) : Ct G GAM mX10_noSort (d + 1) 0 [.int w] I (Rp (some (.int (bI (¬ (nI 0 ≤ w ∧ w ≤ nI 3))))) I) := by
  refine Ct.mk [some (.int w)] ?_
  refine Rn.iload_n dX10_noSort_0 rfl rfl ?_
  refine Rn.iconst (v := (nI 0)) dX10_noSort_1 rfl ?_
  refine Rn.iconst (v := (nI 3)) dX10_noSort_2 rfl ?_
  refine Rn.callSp (As := [_, _, _]) dX10_noSort_3 ms_X10_78 rfl rfl (Nat.le_of_ble_eq_true rfl) (ct_in G _ _ _ _ _) ?_
  refine Rn.if_neB dX10_noSort_6 13 (fun h1 => ?_) (fun h1 => ?_)
  · refine Rn.iconst (v := (nI 0)) dX10_noSort_13 rfl ?_
    exact Rn.zret dX10_noSort_14 rfl rfl (⟨by rw [bI_f (fun q => q h1)]; rfl, rfl⟩)
  · refine Rn.iconst (v := (nI 1)) dX10_noSort_9 rfl ?_
    refine Rn.goto 14 dX10_noSort_10 (by decide) ?_
    exact Rn.zret dX10_noSort_14 rfl rfl (⟨by rw [bI_t h1]; rfl, rfl⟩)
def nseed (s : Int32) : Int32 := 1103515245 * s + nI 12345
def ndraw (s : Int32) : Int32 := (nseed s >>> (nI 16 &&& 31)) &&& nI 32767
theorem ct_drawn (n : Int32) (hn : ¬ n = 0) : Ct G GAM mX10_drawn d 0 [.ref 94, .int n] I (Rp (some (.int (ndraw (I 95 8) - ndraw (I 95 8) / n * n))) (zup I 95 8 (nseed (I 95 8)))) := by
  refine Ct.mk [some (.ref 94), some (.int n)] ?_
  refine Rn.aload_n dX10_drawn_0 rfl rfl ?_
  refine Rn.getR dX10_drawn_1 fd_X10_13_9 (by first | rfl | exact gC0 (by assumption) | exact gL0 (by assumption)) rfl ?_
  refine Rn.bipush (v := (nI 8)) dX10_drawn_4 rfl ?_
  refine Rn.ldc dX10_drawn_6 kc_X10_85 ?_
  refine Rn.aload_n dX10_drawn_8 rfl rfl ?_
  refine Rn.getR dX10_drawn_9 fd_X10_13_9 (by first | rfl | exact gC0 (by assumption) | exact gL0 (by assumption)) rfl ?_
  refine Rn.bipush (v := (nI 8)) dX10_drawn_12 rfl ?_
  refine Rn.ialdN dX10_drawn_14 (by first | rfl | exact gC1 (by assumption) | exact gC2 (by assumption) | exact gC3 (by assumption) | exact gL1 (by assumption) | exact gL2 (by assumption) | exact gL3 (by assumption) | exact gL4 (by assumption) | exact gL5 (by assumption) | exact gL6 (by assumption)) ?_
  refine Rn.imul dX10_drawn_15 ?_
  refine Rn.sipush (v := (nI 12345)) dX10_drawn_16 rfl ?_
  refine Rn.iadd dX10_drawn_19 ?_
  refine Rn.iastN dX10_drawn_20 (by first | rfl | exact gC1 (by assumption) | exact gC2 (by assumption) | exact gC3 (by assumption) | exact gL1 (by assumption) | exact gL2 (by assumption) | exact gL3 (by assumption) | exact gL4 (by assumption) | exact gL5 (by assumption) | exact gL6 (by assumption)) ?_
  refine Rn.aload_n dX10_drawn_21 rfl rfl ?_
  refine Rn.getR dX10_drawn_22 fd_X10_13_9 (by first | rfl | exact gC0 (by assumption) | exact gL0 (by assumption)) rfl ?_
  refine Rn.bipush (v := (nI 8)) dX10_drawn_25 rfl ?_
  refine Rn.ialdN dX10_drawn_27 (by first | rfl | exact gC1 (by assumption) | exact gC2 (by assumption) | exact gC3 (by assumption) | exact gL1 (by assumption) | exact gL2 (by assumption) | exact gL3 (by assumption) | exact gL4 (by assumption) | exact gL5 (by assumption) | exact gL6 (by assumption)) ?_
  refine Rn.bipush (v := (nI 16)) dX10_drawn_28 rfl ?_
  refine Rn.ishr dX10_drawn_30 ?_
  refine Rn.sipush (v := (nI 32767)) dX10_drawn_31 rfl ?_
  refine Rn.iand dX10_drawn_34 ?_
  refine Rn.iload_n dX10_drawn_35 rfl rfl ?_
  refine Rn.irem dX10_drawn_36 (by exact hn) ?_
  exact Rn.iret dX10_drawn_37 rfl (⟨rfl, rfl⟩)
theorem ct_end (n : Int32) : Ct G GAM mX10_end d 0 [.ref 94, .int n] I (Rp (some (.int (bI (¬ n < 0 ∧ n ≤ I 94 9)))) (if ¬ n < 0 ∧ n ≤ I 94 9 then zup (zup I 94 0 (nI 0)) 94 9 n else zup I 94 0 (nI 0))) := by
  refine Ct.mk [some (.ref 94), some (.int n)] ?_
  refine Rn.aload_n dX10_end_0 rfl rfl ?_
  refine Rn.iconst (v := (nI 0)) dX10_end_1 rfl ?_
  refine Rn.putI dX10_end_2 fp_X10_3_9 (by first | rfl | exact gC0 (by assumption) | exact gL0 (by assumption)) rfl ?_
  refine Rn.iload_n dX10_end_5 rfl rfl ?_
  refine Rn.if_lt (tgt := 17) dX10_end_6 (by decide) (fun h1 => ?_) (fun h1 => ?_)
  · refine Rn.iconst (v := (nI 0)) dX10_end_17 rfl ?_
    exact Rn.zret dX10_end_18 rfl rfl (⟨by rw [bI_f (fun q => q.1 h1)]; rfl, by rw [if_neg (fun q => q.1 h1)]⟩)
  · refine Rn.iload_n dX10_end_9 rfl rfl ?_
    refine Rn.aload_n dX10_end_10 rfl rfl ?_
    refine Rn.getI dX10_end_11 fd_X10_86_9 (by first | rfl | exact gC0 (by assumption) | exact gL0 (by assumption)) rfl ?_
    refine Rn.icmp_le (tgt := 19) dX10_end_14 (by decide) (fun h2 => ?_) (fun h2 => ?_)
    · refine Rn.aload_n dX10_end_19 rfl rfl ?_
      refine Rn.iload_n dX10_end_20 rfl rfl ?_
      refine Rn.putI dX10_end_21 fp_X10_86_9 (by first | rfl | exact gC0 (by assumption) | exact gL0 (by assumption)) rfl ?_
      refine Rn.iconst (v := (nI 1)) dX10_end_24 rfl ?_
      exact Rn.zret dX10_end_25 rfl rfl (⟨by rw [bI_t ⟨h1, h2⟩]; rfl, by rw [if_pos ⟨h1, h2⟩]⟩)
    · refine Rn.iconst (v := (nI 0)) dX10_end_17 rfl ?_
      exact Rn.zret dX10_end_18 rfl rfl (⟨by rw [bI_f (fun q => h2 q.2)]; rfl, by rw [if_neg (fun q => h2 q.2)]⟩)
theorem ct_uses : Ct G GAM mX10_uses d 0 [.ref 94] I (Rp none (zup (zup (zup (zup I 94 0 (nI 0)) 94 11 (I 94 9)) 94 9 (nI 0)) 94 10 (nI 0))) := by
  refine Ct.mk [some (.ref 94)] ?_
  refine Rn.aload_n dX10_uses_0 rfl rfl ?_
  refine Rn.iconst (v := (nI 0)) dX10_uses_1 rfl ?_
  refine Rn.putI dX10_uses_2 fp_X10_3_9 (by first | rfl | exact gC0 (by assumption) | exact gL0 (by assumption)) rfl ?_
  refine Rn.aload_n dX10_uses_5 rfl rfl ?_
  refine Rn.aload_n dX10_uses_6 rfl rfl ?_
  refine Rn.getI dX10_uses_7 fd_X10_86_9 (by first | rfl | exact gC0 (by assumption) | exact gL0 (by assumption)) rfl ?_
  refine Rn.putI dX10_uses_10 fp_X10_92_9 (by first | rfl | exact gC0 (by assumption) | exact gL0 (by assumption)) rfl ?_
  refine Rn.aload_n dX10_uses_13 rfl rfl ?_
  refine Rn.iconst (v := (nI 0)) dX10_uses_14 rfl ?_
  refine Rn.putI dX10_uses_15 fp_X10_86_9 (by first | rfl | exact gC0 (by assumption) | exact gL0 (by assumption)) rfl ?_
  refine Rn.aload_n dX10_uses_18 rfl rfl ?_
  refine Rn.iconst (v := (nI 0)) dX10_uses_19 rfl ?_
  refine Rn.putI dX10_uses_20 fp_X10_89_9 (by first | rfl | exact gC0 (by assumption) | exact gL0 (by assumption)) rfl ?_
  exact Rn.vret dX10_uses_23 rfl (⟨rfl, rfl⟩)
theorem ct_fault : Ct G GAM mX10_fault d 0 [.ref 94] I (Rp (some (.int (I 94 14))) (zup I 94 0 (nI 0))) := by
  refine Ct.mk [some (.ref 94)] ?_
  refine Rn.aload_n dX10_fault_0 rfl rfl ?_
  refine Rn.iconst (v := (nI 0)) dX10_fault_1 rfl ?_
  refine Rn.putI dX10_fault_2 fp_X10_3_9 (by first | rfl | exact gC0 (by assumption) | exact gL0 (by assumption)) rfl ?_
  refine Rn.aload_n dX10_fault_5 rfl rfl ?_
  refine Rn.getI dX10_fault_6 fd_X10_33_9 (by first | rfl | exact gC0 (by assumption) | exact gL0 (by assumption)) rfl ?_
  exact Rn.iret dX10_fault_9 rfl (⟨rfl, rfl⟩)
theorem lp_image {kx : Kx} {b : Nat} (J : Hi) (k : Rn G GAM mX10_image kx d b 32 [some (.ref 94), some (.int (nI 1226))] [] (zset J 96 (cp (J 95) (J 96) 1226))) : ∀ n i : Nat, i + n = 1226 → Rn G GAM mX10_image kx d b 7 [some (.ref 94), some (.int (nI i))] [] (zset J 96 (cp (J 95) (J 96) i)) := by
  intro n
  induction n with
  | zero =>
    intro i hi
    obtain rfl : i = 1226 := by omega
    refine Rn.iload_n dX10_image_7 rfl rfl ?_
    refine Rn.sipush (v := (nI 1226)) dX10_image_8 rfl ?_
    refine Rn.icmp_geN dX10_image_11 32 (fun _ => ?_) (fun h9 => by exfalso; omega)
    exact k
  | succ n ih =>
    intro i hi
    refine Rn.iload_n dX10_image_7 rfl rfl ?_
    refine Rn.sipush (v := (nI 1226)) dX10_image_8 rfl ?_
    refine Rn.icmp_geN dX10_image_11 32 (fun h9 => by exfalso; omega) (fun _ => ?_)
    refine Rn.aload_n dX10_image_14 rfl rfl ?_
    refine Rn.getR dX10_image_15 fd_X10_17_9 (by first | rfl | exact gC0 (by assumption) | exact gL0 (by assumption)) rfl ?_
    refine Rn.iload_n dX10_image_18 rfl rfl ?_
    refine Rn.aload_n dX10_image_19 rfl rfl ?_
    refine Rn.getR dX10_image_20 fd_X10_13_9 (by first | rfl | exact gC0 (by assumption) | exact gL0 (by assumption)) rfl ?_
    refine Rn.iload_n dX10_image_23 rfl rfl ?_
    refine Rn.ialdN dX10_image_24 (by first | rfl | exact gC1 (by assumption) | exact gC2 (by assumption) | exact gC3 (by assumption) | exact gL1 (by assumption) | exact gL2 (by assumption) | exact gL3 (by assumption) | exact gL4 (by assumption) | exact gL5 (by assumption) | exact gL6 (by assumption)) ?_
    refine Rn.iastN dX10_image_25 (by first | rfl | exact gC1 (by assumption) | exact gC2 (by assumption) | exact gC3 (by assumption) | exact gL1 (by assumption) | exact gL2 (by assumption) | exact gL3 (by assumption) | exact gL4 (by assumption) | exact gL5 (by assumption) | exact gL6 (by assumption)) ?_
    refine Rn.iincN dX10_image_26 rfl (by decide) ?_
    refine Rn.goto 7 dX10_image_29 (by decide) ?_
    exact Rn.hpp _ (by rw [zup_zset]; exact congrArg _ (cp_upd _ _ i)) (ih (i + 1) (by omega))
theorem ct_image : Ct G GAM mX10_image d 0 [.ref 94] I (Rp none (zup (zset (zup I 94 0 (nI 0)) 96 (cp (I 95) (I 96) 1226)) 94 6 (nI 1))) := by
  refine Ct.mk [some (.ref 94), none] ?_
  refine Rn.aload_n dX10_image_0 rfl rfl ?_
  refine Rn.iconst (v := (nI 0)) dX10_image_1 rfl ?_
  refine Rn.putI dX10_image_2 fp_X10_3_9 (by first | rfl | exact gC0 (by assumption) | exact gL0 (by assumption)) rfl ?_
  refine Rn.iconst (v := (nI 0)) dX10_image_5 rfl ?_
  refine Rn.istore_n dX10_image_6 rfl (by decide) ?_
  refine Rn.hpp _ (cp_start _ 96 _) (lp_image G d (zup I 94 0 (nI 0)) ?_ 1226 0 rfl)
  refine Rn.aload_n dX10_image_32 rfl rfl ?_
  refine Rn.iconst (v := (nI 1)) dX10_image_33 rfl ?_
  refine Rn.put dX10_image_34 fp_X10_54_9 (by first | rfl | exact gC0 (by assumption) | exact gL0 (by assumption)) rfl ⟨rfl, rfl⟩ ?_
  exact Rn.vret dX10_image_37 rfl (⟨rfl, rfl⟩)
theorem lp_back {kx : Kx} {b : Nat} (J : Hi) (k : Rn G GAM mX10_back kx d b 41 [some (.ref 94), some (.int (nI 1226))] [] (zset J 95 (cp (J 96) (J 95) 1226))) : ∀ n i : Nat, i + n = 1226 → Rn G GAM mX10_back kx d b 16 [some (.ref 94), some (.int (nI i))] [] (zset J 95 (cp (J 96) (J 95) i)) := by
  intro n
  induction n with
  | zero =>
    intro i hi
    obtain rfl : i = 1226 := by omega
    refine Rn.iload_n dX10_back_16 rfl rfl ?_
    refine Rn.sipush (v := (nI 1226)) dX10_back_17 rfl ?_
    refine Rn.icmp_geN dX10_back_20 41 (fun _ => ?_) (fun h9 => by exfalso; omega)
    exact k
  | succ n ih =>
    intro i hi
    refine Rn.iload_n dX10_back_16 rfl rfl ?_
    refine Rn.sipush (v := (nI 1226)) dX10_back_17 rfl ?_
    refine Rn.icmp_geN dX10_back_20 41 (fun h9 => by exfalso; omega) (fun _ => ?_)
    refine Rn.aload_n dX10_back_23 rfl rfl ?_
    refine Rn.getR dX10_back_24 fd_X10_13_9 (by first | rfl | exact gC0 (by assumption) | exact gL0 (by assumption)) rfl ?_
    refine Rn.iload_n dX10_back_27 rfl rfl ?_
    refine Rn.aload_n dX10_back_28 rfl rfl ?_
    refine Rn.getR dX10_back_29 fd_X10_17_9 (by first | rfl | exact gC0 (by assumption) | exact gL0 (by assumption)) rfl ?_
    refine Rn.iload_n dX10_back_32 rfl rfl ?_
    refine Rn.ialdN dX10_back_33 (by first | rfl | exact gC1 (by assumption) | exact gC2 (by assumption) | exact gC3 (by assumption) | exact gL1 (by assumption) | exact gL2 (by assumption) | exact gL3 (by assumption) | exact gL4 (by assumption) | exact gL5 (by assumption) | exact gL6 (by assumption)) ?_
    refine Rn.iastN dX10_back_34 (by first | rfl | exact gC1 (by assumption) | exact gC2 (by assumption) | exact gC3 (by assumption) | exact gL1 (by assumption) | exact gL2 (by assumption) | exact gL3 (by assumption) | exact gL4 (by assumption) | exact gL5 (by assumption) | exact gL6 (by assumption)) ?_
    refine Rn.iincN dX10_back_35 rfl (by decide) ?_
    refine Rn.goto 16 dX10_back_38 (by decide) ?_
    exact Rn.hpp _ (by rw [zup_zset]; exact congrArg _ (cp_upd _ _ i)) (ih (i + 1) (by omega))
theorem ct_back (h : I 94 6 = nI 0 ∨ I 94 6 = nI 1) : Ct G GAM mX10_back d 0 [.ref 94] I (Rp (some (.int (I 94 6))) (if I 94 6 = nI 0 then zup I 94 0 (nI 0) else zup (zset (zup I 94 0 (nI 0)) 95 (cp (I 96) (I 95) 1226)) 94 7 (nI 0))) := by
  refine Ct.mk [some (.ref 94), none] ?_
  refine Rn.aload_n dX10_back_0 rfl rfl ?_
  refine Rn.iconst (v := (nI 0)) dX10_back_1 rfl ?_
  refine Rn.putI dX10_back_2 fp_X10_3_9 (by first | rfl | exact gC0 (by assumption) | exact gL0 (by assumption)) rfl ?_
  refine Rn.aload_n dX10_back_5 rfl rfl ?_
  refine Rn.getI dX10_back_6 fd_X10_54_9 (by first | rfl | exact gC0 (by assumption) | exact gL0 (by assumption)) rfl ?_
  refine Rn.if_ne (tgt := 14) dX10_back_9 (by decide) (fun h1 => ?_) (fun h1 => ?_)
  · refine Rn.iconst (v := (nI 0)) dX10_back_14 rfl ?_
    refine Rn.istore_n dX10_back_15 rfl (by decide) ?_
    refine Rn.hpp _ (cp_start _ 95 _) (lp_back G d (zup I 94 0 (nI 0)) ?_ 1226 0 rfl)
    refine Rn.aload_n dX10_back_41 rfl rfl ?_
    refine Rn.iconst (v := (nI 0)) dX10_back_42 rfl ?_
    refine Rn.putI dX10_back_43 fp_X10_58_9 (by first | rfl | exact gC0 (by assumption) | exact gL0 (by assumption)) rfl ?_
    refine Rn.iconst (v := (nI 1)) dX10_back_46 rfl ?_
    exact Rn.zret dX10_back_47 rfl rfl (⟨by rw [h.resolve_left h1], by rw [if_neg (show ¬ I 94 6 = nI 0 from h1)]; rfl⟩)
  · refine Rn.iconst (v := (nI 0)) dX10_back_12 rfl ?_
    exact Rn.zret dX10_back_13 rfl rfl (⟨by rw [show I 94 6 = nI 0 from h1], by rw [if_pos (show I 94 6 = nI 0 from h1)]⟩)
theorem lp_keepsAll {kx : Kx} {b : Nat} (J : Hi) (k : Rn G GAM mX10_keepsAll kx d b 27 [some (.ref 94), some (.int (nI 377))] [] (zset J 98 (cp (J 95) (J 98) 377))) : ∀ n i : Nat, i + n = 377 → Rn G GAM mX10_keepsAll kx d b 2 [some (.ref 94), some (.int (nI i))] [] (zset J 98 (cp (J 95) (J 98) i)) := by
  intro n
  induction n with
  | zero =>
    intro i hi
    obtain rfl : i = 377 := by omega
    refine Rn.iload_n dX10_keepsAll_2 rfl rfl ?_
    refine Rn.sipush (v := (nI 377)) dX10_keepsAll_3 rfl ?_
    refine Rn.icmp_geN dX10_keepsAll_6 27 (fun _ => ?_) (fun h9 => by exfalso; omega)
    exact k
  | succ n ih =>
    intro i hi
    refine Rn.iload_n dX10_keepsAll_2 rfl rfl ?_
    refine Rn.sipush (v := (nI 377)) dX10_keepsAll_3 rfl ?_
    refine Rn.icmp_geN dX10_keepsAll_6 27 (fun h9 => by exfalso; omega) (fun _ => ?_)
    refine Rn.aload_n dX10_keepsAll_9 rfl rfl ?_
    refine Rn.getR dX10_keepsAll_10 fd_X10_23_9 (by first | rfl | exact gC0 (by assumption) | exact gL0 (by assumption)) rfl ?_
    refine Rn.iload_n dX10_keepsAll_13 rfl rfl ?_
    refine Rn.aload_n dX10_keepsAll_14 rfl rfl ?_
    refine Rn.getR dX10_keepsAll_15 fd_X10_13_9 (by first | rfl | exact gC0 (by assumption) | exact gL0 (by assumption)) rfl ?_
    refine Rn.iload_n dX10_keepsAll_18 rfl rfl ?_
    refine Rn.ialdN dX10_keepsAll_19 (by first | rfl | exact gC1 (by assumption) | exact gC2 (by assumption) | exact gC3 (by assumption) | exact gL1 (by assumption) | exact gL2 (by assumption) | exact gL3 (by assumption) | exact gL4 (by assumption) | exact gL5 (by assumption) | exact gL6 (by assumption)) ?_
    refine Rn.iastN dX10_keepsAll_20 (by first | rfl | exact gC1 (by assumption) | exact gC2 (by assumption) | exact gC3 (by assumption) | exact gL1 (by assumption) | exact gL2 (by assumption) | exact gL3 (by assumption) | exact gL4 (by assumption) | exact gL5 (by assumption) | exact gL6 (by assumption)) ?_
    refine Rn.iincN dX10_keepsAll_21 rfl (by decide) ?_
    refine Rn.goto 2 dX10_keepsAll_24 (by decide) ?_
    exact Rn.hpp _ (by rw [zup_zset]; exact congrArg _ (cp_upd _ _ i)) (ih (i + 1) (by omega))
theorem ct_keepsAll : Ct G GAM mX10_keepsAll d 0 [.ref 94] I (Rp none (zset I 98 (cp (I 95) (I 98) 377))) := by
  refine Ct.mk [some (.ref 94), none] ?_
  refine Rn.iconst (v := (nI 0)) dX10_keepsAll_0 rfl ?_
  refine Rn.istore_n dX10_keepsAll_1 rfl (by decide) ?_
  refine Rn.hpp _ (cp_start _ 98 _) (lp_keepsAll G d I ?_ 377 0 rfl)
  exact Rn.vret dX10_keepsAll_27 rfl (⟨rfl, rfl⟩)
theorem lp_bringsBack {kx : Kx} {b : Nat} (J : Hi) (k : Rn G GAM mX10_bringsBack kx d b 27 [some (.ref 94), some (.int (nI 377))] [] (zset J 95 (cp (J 98) (J 95) 377))) : ∀ n i : Nat, i + n = 377 → Rn G GAM mX10_bringsBack kx d b 2 [some (.ref 94), some (.int (nI i))] [] (zset J 95 (cp (J 98) (J 95) i)) := by
  intro n
  induction n with
  | zero =>
    intro i hi
    obtain rfl : i = 377 := by omega
    refine Rn.iload_n dX10_bringsBack_2 rfl rfl ?_
    refine Rn.sipush (v := (nI 377)) dX10_bringsBack_3 rfl ?_
    refine Rn.icmp_geN dX10_bringsBack_6 27 (fun _ => ?_) (fun h9 => by exfalso; omega)
    exact k
  | succ n ih =>
    intro i hi
    refine Rn.iload_n dX10_bringsBack_2 rfl rfl ?_
    refine Rn.sipush (v := (nI 377)) dX10_bringsBack_3 rfl ?_
    refine Rn.icmp_geN dX10_bringsBack_6 27 (fun h9 => by exfalso; omega) (fun _ => ?_)
    refine Rn.aload_n dX10_bringsBack_9 rfl rfl ?_
    refine Rn.getR dX10_bringsBack_10 fd_X10_13_9 (by first | rfl | exact gC0 (by assumption) | exact gL0 (by assumption)) rfl ?_
    refine Rn.iload_n dX10_bringsBack_13 rfl rfl ?_
    refine Rn.aload_n dX10_bringsBack_14 rfl rfl ?_
    refine Rn.getR dX10_bringsBack_15 fd_X10_23_9 (by first | rfl | exact gC0 (by assumption) | exact gL0 (by assumption)) rfl ?_
    refine Rn.iload_n dX10_bringsBack_18 rfl rfl ?_
    refine Rn.ialdN dX10_bringsBack_19 (by first | rfl | exact gC1 (by assumption) | exact gC2 (by assumption) | exact gC3 (by assumption) | exact gL1 (by assumption) | exact gL2 (by assumption) | exact gL3 (by assumption) | exact gL4 (by assumption) | exact gL5 (by assumption) | exact gL6 (by assumption)) ?_
    refine Rn.iastN dX10_bringsBack_20 (by first | rfl | exact gC1 (by assumption) | exact gC2 (by assumption) | exact gC3 (by assumption) | exact gL1 (by assumption) | exact gL2 (by assumption) | exact gL3 (by assumption) | exact gL4 (by assumption) | exact gL5 (by assumption) | exact gL6 (by assumption)) ?_
    refine Rn.iincN dX10_bringsBack_21 rfl (by decide) ?_
    refine Rn.goto 2 dX10_bringsBack_24 (by decide) ?_
    exact Rn.hpp _ (by rw [zup_zset]; exact congrArg _ (cp_upd _ _ i)) (ih (i + 1) (by omega))
theorem ct_bringsBack : Ct G GAM mX10_bringsBack d 0 [.ref 94] I (Rp none (zset I 95 (cp (I 98) (I 95) 377))) := by
  refine Ct.mk [some (.ref 94), none] ?_
  refine Rn.iconst (v := (nI 0)) dX10_bringsBack_0 rfl ?_
  refine Rn.istore_n dX10_bringsBack_1 rfl (by decide) ?_
  refine Rn.hpp _ (cp_start _ 95 _) (lp_bringsBack G d I ?_ 377 0 rfl)
  exact Rn.vret dX10_bringsBack_27 rfl (⟨rfl, rfl⟩)
theorem ct_luckIn (t : Nat) (h : t < 8) : Ct G GAM mX10_luckIn (d + 2) 0 [.ref 94, .int (nI t)] I (Rp (some (.int (I 95 (65 + 9 * t + 0) + I 95 (65 + 9 * t + 1) + I 95 (65 + 9 * t + 2) + I 95 (65 + 9 * t + 3)))) I) := by
  refine Ct.mk [some (.ref 94), some (.int (nI t)), none, none] ?_
  refine Rn.iconst (v := (nI 0)) dX10_luckIn_0 rfl ?_
  refine Rn.istore_n dX10_luckIn_1 rfl (by decide) ?_
  refine Rn.iconst (v := (nI 0)) dX10_luckIn_2 rfl ?_
  refine Rn.istore_n dX10_luckIn_3 rfl (by decide) ?_
  refine Rn.iload_n dX10_luckIn_4 rfl rfl ?_
  refine Rn.iconst (v := (nI 4)) dX10_luckIn_5 rfl ?_
  refine Rn.icmp_geN dX10_luckIn_6 24 (fun h9 => by exfalso; omega) (fun _ => ?_)
  refine Rn.iload_n dX10_luckIn_9 rfl rfl ?_
  refine Rn.aload_n dX10_luckIn_10 rfl rfl ?_
  refine Rn.iload_n dX10_luckIn_11 rfl rfl ?_
  refine Rn.iload_n dX10_luckIn_12 rfl rfl ?_
  refine Rn.callVp (As := [_, _]) dX10_luckIn_13 mv_X10_71 (by first | rfl | exact gC0 (by assumption) | exact gL0 (by assumption)) rfl rfl rfl (Nat.le_of_ble_eq_true rfl) (ct_ofThing G _ _ _ _ (by omega)) ?_
  refine Rn.iadd dX10_luckIn_16 ?_
  refine Rn.istore_n dX10_luckIn_17 rfl (by decide) ?_
  refine Rn.iincN dX10_luckIn_18 rfl (by decide) ?_
  refine Rn.goto 4 dX10_luckIn_21 (by decide) ?_
  refine Rn.iload_n dX10_luckIn_4 rfl rfl ?_
  refine Rn.iconst (v := (nI 4)) dX10_luckIn_5 rfl ?_
  refine Rn.icmp_geN dX10_luckIn_6 24 (fun h9 => by exfalso; omega) (fun _ => ?_)
  refine Rn.iload_n dX10_luckIn_9 rfl rfl ?_
  refine Rn.aload_n dX10_luckIn_10 rfl rfl ?_
  refine Rn.iload_n dX10_luckIn_11 rfl rfl ?_
  refine Rn.iload_n dX10_luckIn_12 rfl rfl ?_
  refine Rn.callVp (As := [_, _]) dX10_luckIn_13 mv_X10_71 (by first | rfl | exact gC0 (by assumption) | exact gL0 (by assumption)) rfl rfl rfl (Nat.le_of_ble_eq_true rfl) (ct_ofThing G _ _ _ _ (by omega)) ?_
  refine Rn.iadd dX10_luckIn_16 ?_
  refine Rn.istore_n dX10_luckIn_17 rfl (by decide) ?_
  refine Rn.iincN dX10_luckIn_18 rfl (by decide) ?_
  refine Rn.goto 4 dX10_luckIn_21 (by decide) ?_
  refine Rn.iload_n dX10_luckIn_4 rfl rfl ?_
  refine Rn.iconst (v := (nI 4)) dX10_luckIn_5 rfl ?_
  refine Rn.icmp_geN dX10_luckIn_6 24 (fun h9 => by exfalso; omega) (fun _ => ?_)
  refine Rn.iload_n dX10_luckIn_9 rfl rfl ?_
  refine Rn.aload_n dX10_luckIn_10 rfl rfl ?_
  refine Rn.iload_n dX10_luckIn_11 rfl rfl ?_
  refine Rn.iload_n dX10_luckIn_12 rfl rfl ?_
  refine Rn.callVp (As := [_, _]) dX10_luckIn_13 mv_X10_71 (by first | rfl | exact gC0 (by assumption) | exact gL0 (by assumption)) rfl rfl rfl (Nat.le_of_ble_eq_true rfl) (ct_ofThing G _ _ _ _ (by omega)) ?_
  refine Rn.iadd dX10_luckIn_16 ?_
  refine Rn.istore_n dX10_luckIn_17 rfl (by decide) ?_
  refine Rn.iincN dX10_luckIn_18 rfl (by decide) ?_
  refine Rn.goto 4 dX10_luckIn_21 (by decide) ?_
  refine Rn.iload_n dX10_luckIn_4 rfl rfl ?_
  refine Rn.iconst (v := (nI 4)) dX10_luckIn_5 rfl ?_
  refine Rn.icmp_geN dX10_luckIn_6 24 (fun h9 => by exfalso; omega) (fun _ => ?_)
  refine Rn.iload_n dX10_luckIn_9 rfl rfl ?_
  refine Rn.aload_n dX10_luckIn_10 rfl rfl ?_
  refine Rn.iload_n dX10_luckIn_11 rfl rfl ?_
  refine Rn.iload_n dX10_luckIn_12 rfl rfl ?_
  refine Rn.callVp (As := [_, _]) dX10_luckIn_13 mv_X10_71 (by first | rfl | exact gC0 (by assumption) | exact gL0 (by assumption)) rfl rfl rfl (Nat.le_of_ble_eq_true rfl) (ct_ofThing G _ _ _ _ (by omega)) ?_
  refine Rn.iadd dX10_luckIn_16 ?_
  refine Rn.istore_n dX10_luckIn_17 rfl (by decide) ?_
  refine Rn.iincN dX10_luckIn_18 rfl (by decide) ?_
  refine Rn.goto 4 dX10_luckIn_21 (by decide) ?_
  refine Rn.iload_n dX10_luckIn_4 rfl rfl ?_
  refine Rn.iconst (v := (nI 4)) dX10_luckIn_5 rfl ?_
  refine Rn.icmp_geN dX10_luckIn_6 24 (fun _ => ?_) (fun h9 => by exfalso; omega)
  refine Rn.iload_n dX10_luckIn_24 rfl rfl ?_
  exact Rn.iret dX10_luckIn_25 rfl (⟨by rw [show nI 0 = 0 from rfl, Int32.zero_add], rfl⟩)
def lkT (W : Nat → Int32) (t : Nat) : Int32 := W (65 + 9 * t + 0) + W (65 + 9 * t + 1) + W (65 + 9 * t + 2) + W (65 + 9 * t + 3)
def lkW (W : Nat → Int32) (w : Nat) : Int32 := W (9 + 7 * w + 0) + W (9 + 7 * w + 1) + W (9 + 7 * w + 2) + W (9 + 7 * w + 3)
theorem ct_worthOf (t : Nat) (h : t < 8) : Ct G GAM mX10_worthOf (d + 3) 0 [.ref 94, .int (nI t)] I (Rp (some (.int (lkT (I 95) t - I 95 (65 + 9 * t + 6)))) I) := by
  refine Ct.mk [some (.ref 94), some (.int (nI t))] ?_
  refine Rn.aload_n dX10_worthOf_0 rfl rfl ?_
  refine Rn.iload_n dX10_worthOf_1 rfl rfl ?_
  refine Rn.callVp (As := [_]) dX10_worthOf_2 mv_X10_272 (by first | rfl | exact gC0 (by assumption) | exact gL0 (by assumption)) rfl rfl rfl (Nat.le_of_ble_eq_true rfl) (ct_luckIn G _ _ _ (by omega)) ?_
  refine Rn.aload_n dX10_worthOf_5 rfl rfl ?_
  refine Rn.iload_n dX10_worthOf_6 rfl rfl ?_
  refine Rn.bipush (v := (nI 6)) dX10_worthOf_7 rfl ?_
  refine Rn.callVp (As := [_, _]) dX10_worthOf_9 mv_X10_71 (by first | rfl | exact gC0 (by assumption) | exact gL0 (by assumption)) rfl rfl rfl (Nat.le_of_ble_eq_true rfl) (ct_ofThing G _ _ _ _ (by omega)) ?_
  refine Rn.isub dX10_worthOf_12 ?_
  exact Rn.iret dX10_worthOf_13 rfl (⟨rfl, rfl⟩)
theorem ct_ofLog (k c : Nat) (h : k < 60) (hc : c < 4) : Ct G GAM mX10_ofLog d 0 [.ref 94, .int (nI k), .int (nI c)] I (Rp (some (.int (I 95 (137 + 4 * k + c)))) I) := by
  refine Ct.mk [some (.ref 94), some (.int (nI k)), some (.int (nI c))] ?_
  refine Rn.aload_n dX10_ofLog_0 rfl rfl ?_
  refine Rn.getR dX10_ofLog_1 fd_X10_13_9 (by first | rfl | exact gC0 (by assumption) | exact gL0 (by assumption)) rfl ?_
  refine Rn.sipush (v := (nI 137)) dX10_ofLog_4 rfl ?_
  refine Rn.iconst (v := (nI 4)) dX10_ofLog_7 rfl ?_
  refine Rn.iload_n dX10_ofLog_8 rfl rfl ?_
  refine Rn.imul dX10_ofLog_9 ?_
  refine Rn.iadd dX10_ofLog_10 ?_
  refine Rn.iload_n dX10_ofLog_11 rfl rfl ?_
  refine Rn.iadd dX10_ofLog_12 ?_
  refine Rn.topI (nI (137 + 4 * k + c)) (by first | rfl | (simp only [nI_add, pk_mul, nI_1]; done) | (simp only [nI_add, pk_mul, nI_1]; congr 1; omega)) ?_
  refine Rn.ialdN dX10_ofLog_13 (by first | rfl | exact gC1 (by assumption) | exact gC2 (by assumption) | exact gC3 (by assumption) | exact gL1 (by assumption) | exact gL2 (by assumption) | exact gL3 (by assumption) | exact gL4 (by assumption) | exact gL5 (by assumption) | exact gL6 (by assumption)) ?_
  exact Rn.iret dX10_ofLog_14 rfl (⟨rfl, rfl⟩)
theorem ct_has (s k : Int32) : Ct G GAM mX10_has d 0 [.int s, .int k] I (Rp (some (.int (bI ((s >>> (k &&& 31)) &&& nI 1 = nI 1)))) I) := by
  refine Ct.mk [some (.int s), some (.int k)] ?_
  refine Rn.iload_n dX10_has_0 rfl rfl ?_
  refine Rn.iload_n dX10_has_1 rfl rfl ?_
  refine Rn.ishr dX10_has_2 ?_
  refine Rn.iconst (v := (nI 1)) dX10_has_3 rfl ?_
  refine Rn.iand dX10_has_4 ?_
  refine Rn.iconst (v := (nI 1)) dX10_has_5 rfl ?_
  refine Rn.icmp_ne (tgt := 13) dX10_has_6 (by decide) (fun h1 => ?_) (fun h1 => ?_)
  · refine Rn.iconst (v := (nI 0)) dX10_has_13 rfl ?_
    exact Rn.zret dX10_has_14 rfl rfl (⟨by rw [bI_f h1]; rfl, rfl⟩)
  · refine Rn.iconst (v := (nI 1)) dX10_has_9 rfl ?_
    refine Rn.goto 14 dX10_has_10 (by decide) ?_
    exact Rn.zret dX10_has_14 rfl rfl (⟨by rw [bI_t h1]; rfl, rfl⟩)
theorem ct_allWomen : Ct G GAM mX10_allWomen (d + 1) 0 [.ref 94] I (Rp (some (.int ((nI 1 <<< (I 95 0 &&& 31)) - nI 1))) I) := by
  refine Ct.mk [some (.ref 94)] ?_
  refine Rn.iconst (v := (nI 1)) dX10_allWomen_0 rfl ?_
  refine Rn.aload_n dX10_allWomen_1 rfl rfl ?_
  refine Rn.callVp (As := []) dX10_allWomen_2 mv_X10_74 (by first | rfl | exact gC0 (by assumption) | exact gL0 (by assumption)) rfl rfl rfl (Nat.le_of_ble_eq_true rfl) (ct_women G _ _) ?_
  refine Rn.ishl dX10_allWomen_5 ?_
  refine Rn.iconst (v := (nI 1)) dX10_allWomen_6 rfl ?_
  refine Rn.isub dX10_allWomen_7 ?_
  exact Rn.iret dX10_allWomen_8 rfl (⟨rfl, rfl⟩)
def sumW (W : Nat → Int32) : Nat → Int32
  | 0 => 0
  | n + 1 => sumW W n + lkW W n
theorem lp_luckOfAll {kx : Kx} {b : Nat} (N : Nat) (hN : N ≤ 8) (hW : I 95 0 = nI N) (k : Rn G GAM mX10_luckOfAll kx (d + 3) b 26 [some (.ref 94), some (.int (sumW (I 95) N)), some (.int (nI N))] [] I) : ∀ n i : Nat, i + n = N → Rn G GAM mX10_luckOfAll kx (d + 3) b 4 [some (.ref 94), some (.int (sumW (I 95) i)), some (.int (nI i))] [] I := by
  intro n
  induction n with
  | zero =>
    intro i hi
    obtain rfl : i = N := by omega
    refine Rn.iload_n dX10_luckOfAll_4 rfl rfl ?_
    refine Rn.aload_n dX10_luckOfAll_5 rfl rfl ?_
    refine Rn.callVp (As := []) dX10_luckOfAll_6 mv_X10_74 (by first | rfl | exact gC0 (by assumption) | exact gL0 (by assumption)) rfl rfl rfl (Nat.le_of_ble_eq_true rfl) (ct_women G _ _) ?_
    refine Rn.topI (nI i) hW ?_
    refine Rn.icmp_geN dX10_luckOfAll_9 26 (fun _ => ?_) (fun h9 => by exfalso; omega)
    exact k
  | succ n ih =>
    intro i hi
    refine Rn.iload_n dX10_luckOfAll_4 rfl rfl ?_
    refine Rn.aload_n dX10_luckOfAll_5 rfl rfl ?_
    refine Rn.callVp (As := []) dX10_luckOfAll_6 mv_X10_74 (by first | rfl | exact gC0 (by assumption) | exact gL0 (by assumption)) rfl rfl rfl (Nat.le_of_ble_eq_true rfl) (ct_women G _ _) ?_
    refine Rn.topI (nI N) hW ?_
    refine Rn.icmp_geN dX10_luckOfAll_9 26 (fun h9 => by exfalso; omega) (fun _ => ?_)
    refine Rn.iload_n dX10_luckOfAll_12 rfl rfl ?_
    refine Rn.aload_n dX10_luckOfAll_13 rfl rfl ?_
    refine Rn.iload_n dX10_luckOfAll_14 rfl rfl ?_
    refine Rn.callVp (As := [_]) dX10_luckOfAll_15 mv_X10_281 (by first | rfl | exact gC0 (by assumption) | exact gL0 (by assumption)) rfl rfl rfl (Nat.le_of_ble_eq_true rfl) (ct_luckOf G _ _ _ (by omega)) ?_
    refine Rn.iadd dX10_luckOfAll_18 ?_
    refine Rn.istore_n dX10_luckOfAll_19 rfl (by decide) ?_
    refine Rn.iincN dX10_luckOfAll_20 rfl (by decide) ?_
    refine Rn.goto 4 dX10_luckOfAll_23 (by decide) ?_
    exact ih (i + 1) (by omega)
theorem ct_luckOfAll (N : Nat) (hN : N ≤ 8) (hW : I 95 0 = nI N) : Ct G GAM mX10_luckOfAll (d + 3) 0 [.ref 94] I (Rp (some (.int (sumW (I 95) N))) I) := by
  refine Ct.mk [some (.ref 94), none, none] ?_
  refine Rn.iconst (v := (nI 0)) dX10_luckOfAll_0 rfl ?_
  refine Rn.istore_n dX10_luckOfAll_1 rfl (by decide) ?_
  refine Rn.iconst (v := (nI 0)) dX10_luckOfAll_2 rfl ?_
  refine Rn.istore_n dX10_luckOfAll_3 rfl (by decide) ?_
  refine lp_luckOfAll G d I N hN hW ?_ N 0 (by omega)
  refine Rn.iload_n dX10_luckOfAll_26 rfl rfl ?_
  exact Rn.iret dX10_luckOfAll_27 rfl (⟨rfl, rfl⟩)
theorem ct_isStuckElsewhere (t : Nat) (w : Int32) (h : t < 8) : Ct G GAM mX10_isStuckElsewhere (d + 3) 0 [.ref 94, .int (nI t), .int w] I (Rp (some (.int (bI (I 95 (65 + 9 * t + 7) = nI 1 ∧ ¬ I 95 (65 + 9 * t + 5) = w)))) I) := by
  refine Ct.mk [some (.ref 94), some (.int (nI t)), some (.int w)] ?_
  refine Rn.aload_n dX10_isStuckElsewhere_0 rfl rfl ?_
  refine Rn.iload_n dX10_isStuckElsewhere_1 rfl rfl ?_
  refine Rn.callVp (As := [_]) dX10_isStuckElsewhere_2 mv_X10_302 (by first | rfl | exact gC0 (by assumption) | exact gL0 (by assumption)) rfl rfl rfl (Nat.le_of_ble_eq_true rfl) (ct_isStuck G _ _ _ (by omega)) ?_
  refine Rn.if_eqB dX10_isStuckElsewhere_5 22 (fun h1 => ?_) (fun h1 => ?_)
  · refine Rn.iconst (v := (nI 0)) dX10_isStuckElsewhere_22 rfl ?_
    exact Rn.zret dX10_isStuckElsewhere_23 rfl rfl (⟨by rw [bI_f (fun q => h1 q.1)]; rfl, rfl⟩)
  · refine Rn.aload_n dX10_isStuckElsewhere_8 rfl rfl ?_
    refine Rn.iload_n dX10_isStuckElsewhere_9 rfl rfl ?_
    refine Rn.iconst (v := (nI 5)) dX10_isStuckElsewhere_10 rfl ?_
    refine Rn.callVp (As := [_, _]) dX10_isStuckElsewhere_11 mv_X10_71 (by first | rfl | exact gC0 (by assumption) | exact gL0 (by assumption)) rfl rfl rfl (Nat.le_of_ble_eq_true rfl) (ct_ofThing G _ _ _ _ (by omega)) ?_
    refine Rn.iload_n dX10_isStuckElsewhere_14 rfl rfl ?_
    refine Rn.icmp_eq (tgt := 22) dX10_isStuckElsewhere_15 (by decide) (fun h2 => ?_) (fun h2 => ?_)
    · refine Rn.iconst (v := (nI 0)) dX10_isStuckElsewhere_22 rfl ?_
      exact Rn.zret dX10_isStuckElsewhere_23 rfl rfl (⟨by rw [bI_f (fun q => q.2 h2)]; rfl, rfl⟩)
    · refine Rn.iconst (v := (nI 1)) dX10_isStuckElsewhere_18 rfl ?_
      refine Rn.goto 23 dX10_isStuckElsewhere_19 (by decide) ?_
      exact Rn.zret dX10_isStuckElsewhere_23 rfl rfl (⟨by rw [bI_t ⟨h1, h2⟩]; rfl, rfl⟩)
theorem ct_mayHave (t : Nat) (w : Int32) (h : t < 8) : Ct G GAM mX10_mayHave (d + 4) 0 [.ref 94, .int (nI t), .int w] I (Rp (some (.int (bI (¬ I 95 (65 + 9 * t + 5) = -1 ∧ ¬ (I 95 (65 + 9 * t + 7) = nI 1 ∧ ¬ I 95 (65 + 9 * t + 5) = w))))) I) := by
  refine Ct.mk [some (.ref 94), some (.int (nI t)), some (.int w)] ?_
  refine Rn.aload_n dX10_mayHave_0 rfl rfl ?_
  refine Rn.iload_n dX10_mayHave_1 rfl rfl ?_
  refine Rn.callVp (As := [_]) dX10_mayHave_2 mv_X10_305 (by first | rfl | exact gC0 (by assumption) | exact gL0 (by assumption)) rfl rfl rfl (Nat.le_of_ble_eq_true rfl) (ct_isPawned G _ _ _ (by omega)) ?_
  refine Rn.if_neB dX10_mayHave_5 21 (fun h1 => ?_) (fun h1 => ?_)
  · refine Rn.iconst (v := (nI 0)) dX10_mayHave_21 rfl ?_
    exact Rn.zret dX10_mayHave_22 rfl rfl (⟨by rw [bI_f (fun q => q.1 h1)]; rfl, rfl⟩)
  · refine Rn.aload_n dX10_mayHave_8 rfl rfl ?_
    refine Rn.iload_n dX10_mayHave_9 rfl rfl ?_
    refine Rn.iload_n dX10_mayHave_10 rfl rfl ?_
    refine Rn.callVp (As := [_, _]) dX10_mayHave_11 mv_X10_308 (by first | rfl | exact gC0 (by assumption) | exact gL0 (by assumption)) rfl rfl rfl (Nat.le_of_ble_eq_true rfl) (ct_isStuckElsewhere G _ _ _ _ (by omega)) ?_
    refine Rn.if_neB dX10_mayHave_14 21 (fun h2 => ?_) (fun h2 => ?_)
    · refine Rn.iconst (v := (nI 0)) dX10_mayHave_21 rfl ?_
      exact Rn.zret dX10_mayHave_22 rfl rfl (⟨by rw [bI_f (fun q => q.2 h2)]; rfl, rfl⟩)
    · refine Rn.iconst (v := (nI 1)) dX10_mayHave_17 rfl ?_
      refine Rn.goto 22 dX10_mayHave_18 (by decide) ?_
      exact Rn.zret dX10_mayHave_22 rfl rfl (⟨by rw [bI_t ⟨h1, h2⟩]; rfl, rfl⟩)
end RefB
