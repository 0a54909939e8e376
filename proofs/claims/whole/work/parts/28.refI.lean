/-- there is such a one: 0 <= x <= n - 1 -/
abbrev vx (x : Int32) (n : Nat) : Prop := nI 0 ≤ x ∧ x ≤ nI n - nI 1
theorem vx_nI {k n : Nat} (h : k < n) (hn : n ≤ 8) : vx (nI k) n := by
  refine ⟨nI_pos' (by omega), ?_⟩
  rw [pk_sub (by omega)]
  exact nI_le (by omega) (by omega)
theorem vx_of {x : Int32} {n : Nat} (hn : n ≤ 8) (h : vx x n) : ∃ k, k < n ∧ x = nI k := by
  obtain ⟨h1, h2⟩ := h
  obtain ⟨k, hk, rfl⟩ := nI_of (Int32.not_lt.mpr (show (0 : Int32) ≤ x from h1))
  refine ⟨k, ?_, rfl⟩
  have h3 : (nI k).toInt ≤ (nI n - nI 1).toInt := Int32.le_iff_toInt_le.mp h2
  rw [pk_sub_toInt (by omega) (by omega), nI_toInt (by omega)] at h3
  omega
section RefI
variable (G : Gx) (d : Nat) (I : Hi) (op bg en : Nat → Nat) (L : Nat)
theorem ct_throwsT (p : Prop) [Decidable p] (h : p) (c : Int32) : Ct G GAM mX10_throwsIf d 0 [.ref 94, .int (bI p), .int c] I (Rp (some (.int (bI p))) (zup I 94 0 c)) := by
  have := ct_throwsIf G d I p c
  rw [if_pos h] at this
  exact this
theorem ct_throwsF (p : Prop) [Decidable p] (h : ¬ p) (c : Int32) : Ct G GAM mX10_throwsIf d 0 [.ref 94, .int (bI p), .int c] I (Rp (some (.int (bI p))) I) := by
  have := ct_throwsIf G d I p c
  rw [if_neg h] at this
  exact this
theorem ct_throws1 (c : Int32) : Ct G GAM mX10_throwsIf d 0 [.ref 94, .int (nI 1), .int c] I (Rp (some (.int (nI 1))) (zup I 94 0 c)) := by
  have := ct_throwsT G d I True trivial c
  rw [bI_t trivial] at this
  exact this
theorem ct_throws0 (c : Int32) : Ct G GAM mX10_throwsIf d 0 [.ref 94, .int (nI 0), .int c] I (Rp (some (.int (nI 0))) I) := by
  have := ct_throwsF G d I False id c
  rw [bI_f id] at this
  exact this
theorem ct_noThingT (x : Int32) (T : Nat) (hT : I 95 1 = nI T) : Ct G GAM mX10_noThing (d + 1) 0 [.ref 94, .int x] I (Rp (some (.int (bI (¬ vx x T)))) I) := by
  have := ct_noThing G d I x
  rw [hT] at this
  exact this
theorem ct_noWomanN (x : Int32) (N : Nat) (hN : I 95 0 = nI N) : Ct G GAM mX10_noWoman (d + 1) 0 [.ref 94, .int x] I (Rp (some (.int (bI (¬ vx x N)))) I) := by
  have := ct_noWoman G d I x
  rw [hN] at this
  exact this
theorem ct_lend1 (N T : Nat) (t w : Int32) (hN : I 95 0 = nI N) (hT : I 95 1 = nI T) (h : ¬ vx t T ∨ ¬ vx w N) : Ct G GAM mX10_lend (d + 2) 0 [.ref 94, .int t, .int w] I (Rp (some (.int (nI 0))) (zup (zup I 94 0 (nI 0)) 94 0 (nI 1))) := by
  refine Ct.mk [some (.ref 94), some (.int t), some (.int w), none] ?_
  refine Rn.aload_n dX10_lend_0 rfl rfl ?_
  refine Rn.iconst (v := (nI 0)) dX10_lend_1 rfl ?_
  refine Rn.putI dX10_lend_2 fp_X10_3_9 (by first | rfl | exact gC0 (by assumption) | exact gL0 (by assumption)) rfl ?_
  refine Rn.aload_n dX10_lend_5 rfl rfl ?_
  refine Rn.aload_n dX10_lend_6 rfl rfl ?_
  refine Rn.iload_n dX10_lend_7 rfl rfl ?_
  refine Rn.callVp (As := [_]) dX10_lend_8 mv_X10_284 (by first | rfl | exact gC0 (by assumption) | exact gL0 (by assumption)) rfl rfl rfl (Nat.le_of_ble_eq_true rfl) (ct_noThingT G _ _ _ T hT) ?_
  refine Rn.if_neB dX10_lend_11 22 (fun h1 => ?_) (fun h1 => ?_)
  · refine Rn.iconst (v := (nI 1)) dX10_lend_22 rfl ?_
    refine Rn.goto 27 dX10_lend_23 (by decide) ?_
    refine Rn.iconst (v := (nI 1)) dX10_lend_27 rfl ?_
    refine Rn.callVp (As := [_, _]) dX10_lend_28 mv_X10_241 (by first | rfl | exact gC0 (by assumption) | exact gL0 (by assumption)) rfl rfl rfl (Nat.le_of_ble_eq_true rfl) (ct_throws1 G _ _ _) ?_
    refine Rn.if_neN dX10_lend_31 71 (fun _ => ?_) (fun h9 => by exfalso; omega)
    refine Rn.iconst (v := (nI 0)) dX10_lend_71 rfl ?_
    exact Rn.iret dX10_lend_72 rfl (⟨rfl, rfl⟩)
  · refine Rn.aload_n dX10_lend_14 rfl rfl ?_
    refine Rn.iload_n dX10_lend_15 rfl rfl ?_
    refine Rn.callVp (As := [_]) dX10_lend_16 mv_X10_275 (by first | rfl | exact gC0 (by assumption) | exact gL0 (by assumption)) rfl rfl rfl (Nat.le_of_ble_eq_true rfl) (ct_noWomanN G _ _ _ N hN) ?_
    refine Rn.if_eqB dX10_lend_19 26 (fun h9 => absurd (h.resolve_left h1) h9) (fun _ => ?_)
    refine Rn.iconst (v := (nI 1)) dX10_lend_22 rfl ?_
    refine Rn.goto 27 dX10_lend_23 (by decide) ?_
    refine Rn.iconst (v := (nI 1)) dX10_lend_27 rfl ?_
    refine Rn.callVp (As := [_, _]) dX10_lend_28 mv_X10_241 (by first | rfl | exact gC0 (by assumption) | exact gL0 (by assumption)) rfl rfl rfl (Nat.le_of_ble_eq_true rfl) (ct_throws1 G _ _ _) ?_
    refine Rn.if_neN dX10_lend_31 71 (fun _ => ?_) (fun h9 => by exfalso; omega)
    refine Rn.iconst (v := (nI 0)) dX10_lend_71 rfl ?_
    exact Rn.iret dX10_lend_72 rfl (⟨rfl, rfl⟩)
theorem ct_lend2 (N T t w : Nat) (hN8 : N ≤ 8) (hT8 : T ≤ 8) (hN : I 95 0 = nI N) (hT : I 95 1 = nI T) (ht : t < T) (hw : w < N) (h : I 95 (65 + 9 * t + 5) = nI w) : Ct G GAM mX10_lend (d + 2) 0 [.ref 94, .int (nI t), .int (nI w)] I (Rp (some (.int (nI 0))) (zup (zup I 94 0 (nI 0)) 94 0 (nI 2))) := by
  refine Ct.mk [some (.ref 94), some (.int (nI t)), some (.int (nI w)), none] ?_
  refine Rn.aload_n dX10_lend_0 rfl rfl ?_
  refine Rn.iconst (v := (nI 0)) dX10_lend_1 rfl ?_
  refine Rn.putI dX10_lend_2 fp_X10_3_9 (by first | rfl | exact gC0 (by assumption) | exact gL0 (by assumption)) rfl ?_
  refine Rn.aload_n dX10_lend_5 rfl rfl ?_
  refine Rn.aload_n dX10_lend_6 rfl rfl ?_
  refine Rn.iload_n dX10_lend_7 rfl rfl ?_
  refine Rn.callVp (As := [_]) dX10_lend_8 mv_X10_284 (by first | rfl | exact gC0 (by assumption) | exact gL0 (by assumption)) rfl rfl rfl (Nat.le_of_ble_eq_true rfl) (ct_noThingT G _ _ _ T hT) ?_
  refine Rn.if_neB dX10_lend_11 22 (fun h9 => absurd h9 (fun q => q (vx_nI ht hT8))) (fun _ => ?_)
  refine Rn.aload_n dX10_lend_14 rfl rfl ?_
  refine Rn.iload_n dX10_lend_15 rfl rfl ?_
  refine Rn.callVp (As := [_]) dX10_lend_16 mv_X10_275 (by first | rfl | exact gC0 (by assumption) | exact gL0 (by assumption)) rfl rfl rfl (Nat.le_of_ble_eq_true rfl) (ct_noWomanN G _ _ _ N hN) ?_
  refine Rn.if_eqB dX10_lend_19 26 (fun _ => ?_) (fun h9 => absurd h9 (fun q => q (vx_nI hw hN8)))
  refine Rn.iconst (v := (nI 0)) dX10_lend_26 rfl ?_
  refine Rn.iconst (v := (nI 1)) dX10_lend_27 rfl ?_
  refine Rn.callVp (As := [_, _]) dX10_lend_28 mv_X10_241 (by first | rfl | exact gC0 (by assumption) | exact gL0 (by assumption)) rfl rfl rfl (Nat.le_of_ble_eq_true rfl) (ct_throws0 G _ _ _) ?_
  refine Rn.if_neN dX10_lend_31 71 (fun h9 => by exfalso; omega) (fun _ => ?_)
  refine Rn.aload_n dX10_lend_34 rfl rfl ?_
  refine Rn.aload_n dX10_lend_35 rfl rfl ?_
  refine Rn.iload_n dX10_lend_36 rfl rfl ?_
  refine Rn.iconst (v := (nI 5)) dX10_lend_37 rfl ?_
  refine Rn.callVp (As := [_, _]) dX10_lend_38 mv_X10_71 (by first | rfl | exact gC0 (by assumption) | exact gL0 (by assumption)) rfl rfl rfl (Nat.le_of_ble_eq_true rfl) (ct_ofThing G _ _ _ _ (by omega)) ?_
  refine Rn.topI (nI w) (by exact h) ?_
  refine Rn.iload_n dX10_lend_41 rfl rfl ?_
  refine Rn.icmp_neN dX10_lend_42 49 (fun h9 => by exfalso; omega) (fun _ => ?_)
  refine Rn.iconst (v := (nI 1)) dX10_lend_45 rfl ?_
  refine Rn.goto 50 dX10_lend_46 (by decide) ?_
  refine Rn.iconst (v := (nI 2)) dX10_lend_50 rfl ?_
  refine Rn.callVp (As := [_, _]) dX10_lend_51 mv_X10_241 (by first | rfl | exact gC0 (by assumption) | exact gL0 (by assumption)) rfl rfl rfl (Nat.le_of_ble_eq_true rfl) (ct_throws1 G _ _ _) ?_
  refine Rn.if_neN dX10_lend_54 71 (fun _ => ?_) (fun h9 => by exfalso; omega)
  refine Rn.iconst (v := (nI 0)) dX10_lend_71 rfl ?_
  exact Rn.iret dX10_lend_72 rfl (⟨rfl, rfl⟩)
theorem ct_lend3 (N T t w : Nat) (hN8 : N ≤ 8) (hT8 : T ≤ 8) (hN : I 95 0 = nI N) (hT : I 95 1 = nI T) (ht : t < T) (hw : w < N) (h : ¬ I 95 (65 + 9 * t + 5) = nI w) (hhold : I 95 (65 + 9 * t + 5) = -1 ∨ ∃ q, q < 8 ∧ I 95 (65 + 9 * t + 5) = nI q) (hm : mayNotP (I 95) t (nI w)) : Ct G GAM mX10_lend (d + 4) 0 [.ref 94, .int (nI t), .int (nI w)] I (Rp (some (.int (nI 0))) (zup (zup I 94 0 (nI 0)) 94 0 (nI 3))) := by
  refine Ct.mk [some (.ref 94), some (.int (nI t)), some (.int (nI w)), none] ?_
  refine Rn.aload_n dX10_lend_0 rfl rfl ?_
  refine Rn.iconst (v := (nI 0)) dX10_lend_1 rfl ?_
  refine Rn.putI dX10_lend_2 fp_X10_3_9 (by first | rfl | exact gC0 (by assumption) | exact gL0 (by assumption)) rfl ?_
  refine Rn.aload_n dX10_lend_5 rfl rfl ?_
  refine Rn.aload_n dX10_lend_6 rfl rfl ?_
  refine Rn.iload_n dX10_lend_7 rfl rfl ?_
  refine Rn.callVp (As := [_]) dX10_lend_8 mv_X10_284 (by first | rfl | exact gC0 (by assumption) | exact gL0 (by assumption)) rfl rfl rfl (Nat.le_of_ble_eq_true rfl) (ct_noThingT G _ _ _ T hT) ?_
  refine Rn.if_neB dX10_lend_11 22 (fun h9 => absurd h9 (fun q => q (vx_nI ht hT8))) (fun _ => ?_)
  refine Rn.aload_n dX10_lend_14 rfl rfl ?_
  refine Rn.iload_n dX10_lend_15 rfl rfl ?_
  refine Rn.callVp (As := [_]) dX10_lend_16 mv_X10_275 (by first | rfl | exact gC0 (by assumption) | exact gL0 (by assumption)) rfl rfl rfl (Nat.le_of_ble_eq_true rfl) (ct_noWomanN G _ _ _ N hN) ?_
  refine Rn.if_eqB dX10_lend_19 26 (fun _ => ?_) (fun h9 => absurd h9 (fun q => q (vx_nI hw hN8)))
  refine Rn.iconst (v := (nI 0)) dX10_lend_26 rfl ?_
  refine Rn.iconst (v := (nI 1)) dX10_lend_27 rfl ?_
  refine Rn.callVp (As := [_, _]) dX10_lend_28 mv_X10_241 (by first | rfl | exact gC0 (by assumption) | exact gL0 (by assumption)) rfl rfl rfl (Nat.le_of_ble_eq_true rfl) (ct_throws0 G _ _ _) ?_
  refine Rn.if_neN dX10_lend_31 71 (fun h9 => by exfalso; omega) (fun _ => ?_)
  refine Rn.aload_n dX10_lend_34 rfl rfl ?_
  refine Rn.aload_n dX10_lend_35 rfl rfl ?_
  refine Rn.iload_n dX10_lend_36 rfl rfl ?_
  refine Rn.iconst (v := (nI 5)) dX10_lend_37 rfl ?_
  refine Rn.callVp (As := [_, _]) dX10_lend_38 mv_X10_71 (by first | rfl | exact gC0 (by assumption) | exact gL0 (by assumption)) rfl rfl rfl (Nat.le_of_ble_eq_true rfl) (ct_ofThing G _ _ _ _ (by omega)) ?_
  refine Rn.iload_n dX10_lend_41 rfl rfl ?_
  refine Rn.icmp_ne (tgt := 49) dX10_lend_42 (by decide) (fun _ => ?_) (fun h9 => by exfalso; exact h h9)
  refine Rn.iconst (v := (nI 0)) dX10_lend_49 rfl ?_
  refine Rn.iconst (v := (nI 2)) dX10_lend_50 rfl ?_
  refine Rn.callVp (As := [_, _]) dX10_lend_51 mv_X10_241 (by first | rfl | exact gC0 (by assumption) | exact gL0 (by assumption)) rfl rfl rfl (Nat.le_of_ble_eq_true rfl) (ct_throws0 G _ _ _) ?_
  refine Rn.if_neN dX10_lend_54 71 (fun h9 => by exfalso; omega) (fun _ => ?_)
  refine Rn.aload_n dX10_lend_57 rfl rfl ?_
  refine Rn.aload_n dX10_lend_58 rfl rfl ?_
  refine Rn.iload_n dX10_lend_59 rfl rfl ?_
  refine Rn.iload_n dX10_lend_60 rfl rfl ?_
  refine Rn.callVp (As := [_, _]) dX10_lend_61 mv_X10_330 (by first | rfl | exact gC0 (by assumption) | exact gL0 (by assumption)) rfl rfl rfl (Nat.le_of_ble_eq_true rfl) (ct_mayNot G _ _ _ _ (by omega) hhold) ?_
  refine Rn.iconst (v := (nI 3)) dX10_lend_64 rfl ?_
  refine Rn.callVp (As := [_, _]) dX10_lend_65 mv_X10_241 (by first | rfl | exact gC0 (by assumption) | exact gL0 (by assumption)) rfl rfl rfl (Nat.le_of_ble_eq_true rfl) (ct_throwsT G _ _ _ hm _) ?_
  refine Rn.if_eqB dX10_lend_68 73 (fun h9 => absurd (hm) h9) (fun _ => ?_)
  refine Rn.iconst (v := (nI 0)) dX10_lend_71 rfl ?_
  exact Rn.iret dX10_lend_72 rfl (⟨rfl, rfl⟩)
theorem ct_lend0 (N T t w r : Nat) (hN8 : N ≤ 8) (hT8 : T ≤ 8) (hN : I 95 0 = nI N) (hT : I 95 1 = nI T) (ht : t < T) (hw : w < N) (hr : r ≤ 12) (h7 : I 94 7 = nI r) (h : ¬ I 95 (65 + 9 * t + 5) = nI w) (hhold : I 95 (65 + 9 * t + 5) = -1 ∨ ∃ q, q < 8 ∧ I 95 (65 + 9 * t + 5) = nI q) (hm : ¬ mayNotP (I 95) t (nI w)) : Ct G GAM mX10_lend (d + 4) 0 [.ref 94, .int (nI t), .int (nI w)] I (Rp (some (.int (I 95 (65 + 9 * t + 5)))) (zup (zset (zup (zup I 94 0 (nI 0)) 94 7 (nI (remR r))) 99 (remA (I 99) (I 95) r)) 95 (65 + 9 * t + 5) (nI w))) := by
  refine Ct.mk [some (.ref 94), some (.int (nI t)), some (.int (nI w)), none] ?_
  refine Rn.aload_n dX10_lend_0 rfl rfl ?_
  refine Rn.iconst (v := (nI 0)) dX10_lend_1 rfl ?_
  refine Rn.putI dX10_lend_2 fp_X10_3_9 (by first | rfl | exact gC0 (by assumption) | exact gL0 (by assumption)) rfl ?_
  refine Rn.aload_n dX10_lend_5 rfl rfl ?_
  refine Rn.aload_n dX10_lend_6 rfl rfl ?_
  refine Rn.iload_n dX10_lend_7 rfl rfl ?_
  refine Rn.callVp (As := [_]) dX10_lend_8 mv_X10_284 (by first | rfl | exact gC0 (by assumption) | exact gL0 (by assumption)) rfl rfl rfl (Nat.le_of_ble_eq_true rfl) (ct_noThingT G _ _ _ T hT) ?_
  refine Rn.if_neB dX10_lend_11 22 (fun h9 => absurd h9 (fun q => q (vx_nI ht hT8))) (fun _ => ?_)
  refine Rn.aload_n dX10_lend_14 rfl rfl ?_
  refine Rn.iload_n dX10_lend_15 rfl rfl ?_
  refine Rn.callVp (As := [_]) dX10_lend_16 mv_X10_275 (by first | rfl | exact gC0 (by assumption) | exact gL0 (by assumption)) rfl rfl rfl (Nat.le_of_ble_eq_true rfl) (ct_noWomanN G _ _ _ N hN) ?_
  refine Rn.if_eqB dX10_lend_19 26 (fun _ => ?_) (fun h9 => absurd h9 (fun q => q (vx_nI hw hN8)))
  refine Rn.iconst (v := (nI 0)) dX10_lend_26 rfl ?_
  refine Rn.iconst (v := (nI 1)) dX10_lend_27 rfl ?_
  refine Rn.callVp (As := [_, _]) dX10_lend_28 mv_X10_241 (by first | rfl | exact gC0 (by assumption) | exact gL0 (by assumption)) rfl rfl rfl (Nat.le_of_ble_eq_true rfl) (ct_throws0 G _ _ _) ?_
  refine Rn.if_neN dX10_lend_31 71 (fun h9 => by exfalso; omega) (fun _ => ?_)
  refine Rn.aload_n dX10_lend_34 rfl rfl ?_
  refine Rn.aload_n dX10_lend_35 rfl rfl ?_
  refine Rn.iload_n dX10_lend_36 rfl rfl ?_
  refine Rn.iconst (v := (nI 5)) dX10_lend_37 rfl ?_
  refine Rn.callVp (As := [_, _]) dX10_lend_38 mv_X10_71 (by first | rfl | exact gC0 (by assumption) | exact gL0 (by assumption)) rfl rfl rfl (Nat.le_of_ble_eq_true rfl) (ct_ofThing G _ _ _ _ (by omega)) ?_
  refine Rn.iload_n dX10_lend_41 rfl rfl ?_
  refine Rn.icmp_ne (tgt := 49) dX10_lend_42 (by decide) (fun _ => ?_) (fun h9 => by exfalso; exact h h9)
  refine Rn.iconst (v := (nI 0)) dX10_lend_49 rfl ?_
  refine Rn.iconst (v := (nI 2)) dX10_lend_50 rfl ?_
  refine Rn.callVp (As := [_, _]) dX10_lend_51 mv_X10_241 (by first | rfl | exact gC0 (by assumption) | exact gL0 (by assumption)) rfl rfl rfl (Nat.le_of_ble_eq_true rfl) (ct_throws0 G _ _ _) ?_
  refine Rn.if_neN dX10_lend_54 71 (fun h9 => by exfalso; omega) (fun _ => ?_)
  refine Rn.aload_n dX10_lend_57 rfl rfl ?_
  refine Rn.aload_n dX10_lend_58 rfl rfl ?_
  refine Rn.iload_n dX10_lend_59 rfl rfl ?_
  refine Rn.iload_n dX10_lend_60 rfl rfl ?_
  refine Rn.callVp (As := [_, _]) dX10_lend_61 mv_X10_330 (by first | rfl | exact gC0 (by assumption) | exact gL0 (by assumption)) rfl rfl rfl (Nat.le_of_ble_eq_true rfl) (ct_mayNot G _ _ _ _ (by omega) hhold) ?_
  refine Rn.iconst (v := (nI 3)) dX10_lend_64 rfl ?_
  refine Rn.callVp (As := [_, _]) dX10_lend_65 mv_X10_241 (by first | rfl | exact gC0 (by assumption) | exact gL0 (by assumption)) rfl rfl rfl (Nat.le_of_ble_eq_true rfl) (ct_throwsF G _ _ _ hm _) ?_
  refine Rn.if_eqB dX10_lend_68 73 (fun _ => ?_) (fun h9 => absurd h9 (hm))
  refine Rn.aload_n dX10_lend_73 rfl rfl ?_
  refine Rn.callVp (As := []) dX10_lend_74 mv_X10_333 (by first | rfl | exact gC0 (by assumption) | exact gL0 (by assumption)) rfl rfl rfl (Nat.le_of_ble_eq_true rfl) (ct_remembers G _ _ r hr h7) ?_
  refine Rn.aload_n dX10_lend_77 rfl rfl ?_
  refine Rn.iload_n dX10_lend_78 rfl rfl ?_
  refine Rn.iconst (v := (nI 5)) dX10_lend_79 rfl ?_
  refine Rn.callVp (As := [_, _]) dX10_lend_80 mv_X10_71 (by first | rfl | exact gC0 (by assumption) | exact gL0 (by assumption)) rfl rfl rfl (Nat.le_of_ble_eq_true rfl) (ct_ofThing G _ _ _ _ (by omega)) ?_
  refine Rn.istore_n dX10_lend_83 rfl (by decide) ?_
  refine Rn.aload_n dX10_lend_84 rfl rfl ?_
  refine Rn.getR dX10_lend_85 fd_X10_13_9 (by first | rfl | exact gC0 (by assumption) | exact gL0 (by assumption)) rfl ?_
  refine Rn.iload_n dX10_lend_88 rfl rfl ?_
  refine Rn.iconst (v := (nI 5)) dX10_lend_89 rfl ?_
  refine Rn.callSp (As := [_, _]) dX10_lend_90 ms_X10_68 rfl rfl (Nat.le_of_ble_eq_true rfl) (ct_thingAt G _ _ _ _) ?_
  refine Rn.iload_n dX10_lend_93 rfl rfl ?_
  refine Rn.iastN dX10_lend_94 (by first | rfl | exact gC1 (by assumption) | exact gC2 (by assumption) | exact gC3 (by assumption) | exact gL1 (by assumption) | exact gL2 (by assumption) | exact gL3 (by assumption) | exact gL4 (by assumption) | exact gL5 (by assumption) | exact gL6 (by assumption)) ?_
  refine Rn.iload_n dX10_lend_95 rfl rfl ?_
  exact Rn.iret dX10_lend_96 rfl (⟨rfl, rfl⟩)
end RefI
