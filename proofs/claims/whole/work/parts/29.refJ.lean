/-- what an act finds: nothing thrown, and the world remembered -/
abbrev ahd (I : Hi) (r : Nat) : Hi := zset (zup (zup I 94 0 (nI 0)) 94 7 (nI (remR r))) 99 (remA (I 99) (I 95) r)
theorem zW_ahd (I : Hi) : zW I (I 102) (I 103) (I 95) = I := zW_self I
section RefJ
variable (G : Gx) (d : Nat) (I : Hi) (op bg en : Nat → Nat) (L : Nat)
theorem ct_wed1 (N T : Nat) (w t : Int32) (hN : I 95 0 = nI N) (hT : I 95 1 = nI T) (h : ¬ vx w N ∨ ¬ vx t T) : Ct G GAM mX10_wed (d + 2) 0 [.ref 94, .int w, .int t] I (Rp (some (.int (nI 0))) (zup (zup I 94 0 (nI 0)) 94 0 (nI 1))) := by
  refine Ct.mk [some (.ref 94), some (.int w), some (.int t), none] ?_
  refine Rn.aload_n dX10_wed_0 rfl rfl ?_
  refine Rn.iconst (v := (nI 0)) dX10_wed_1 rfl ?_
  refine Rn.putI dX10_wed_2 fp_X10_3_9 (by first | rfl | exact gC0 (by assumption) | exact gL0 (by assumption)) rfl ?_
  refine Rn.aload_n dX10_wed_5 rfl rfl ?_
  refine Rn.aload_n dX10_wed_6 rfl rfl ?_
  refine Rn.iload_n dX10_wed_7 rfl rfl ?_
  refine Rn.callVp (As := [_]) dX10_wed_8 mv_X10_275 (by first | rfl | exact gC0 (by assumption) | exact gL0 (by assumption)) rfl rfl rfl (Nat.le_of_ble_eq_true rfl) (ct_noWomanN G _ _ _ N hN) ?_
  refine Rn.if_neB dX10_wed_11 22 (fun h1 => ?_) (fun h1 => ?_)
  · refine Rn.iconst (v := (nI 1)) dX10_wed_22 rfl ?_
    refine Rn.goto 27 dX10_wed_23 (by decide) ?_
    refine Rn.iconst (v := (nI 1)) dX10_wed_27 rfl ?_
    refine Rn.callVp (As := [_, _]) dX10_wed_28 mv_X10_241 (by first | rfl | exact gC0 (by assumption) | exact gL0 (by assumption)) rfl rfl rfl (Nat.le_of_ble_eq_true rfl) (ct_throws1 G _ _ _) ?_
    refine Rn.if_neN dX10_wed_31 57 (fun _ => ?_) (fun h9 => by exfalso; omega)
    refine Rn.iconst (v := (nI 0)) dX10_wed_57 rfl ?_
    exact Rn.iret dX10_wed_58 rfl (⟨rfl, rfl⟩)
  · refine Rn.aload_n dX10_wed_14 rfl rfl ?_
    refine Rn.iload_n dX10_wed_15 rfl rfl ?_
    refine Rn.callVp (As := [_]) dX10_wed_16 mv_X10_284 (by first | rfl | exact gC0 (by assumption) | exact gL0 (by assumption)) rfl rfl rfl (Nat.le_of_ble_eq_true rfl) (ct_noThingT G _ _ _ T hT) ?_
    refine Rn.if_eqB dX10_wed_19 26 (fun h9 => absurd (h.resolve_left h1) h9) (fun _ => ?_)
    refine Rn.iconst (v := (nI 1)) dX10_wed_22 rfl ?_
    refine Rn.goto 27 dX10_wed_23 (by decide) ?_
    refine Rn.iconst (v := (nI 1)) dX10_wed_27 rfl ?_
    refine Rn.callVp (As := [_, _]) dX10_wed_28 mv_X10_241 (by first | rfl | exact gC0 (by assumption) | exact gL0 (by assumption)) rfl rfl rfl (Nat.le_of_ble_eq_true rfl) (ct_throws1 G _ _ _) ?_
    refine Rn.if_neN dX10_wed_31 57 (fun _ => ?_) (fun h9 => by exfalso; omega)
    refine Rn.iconst (v := (nI 0)) dX10_wed_57 rfl ?_
    exact Rn.iret dX10_wed_58 rfl (⟨rfl, rfl⟩)
theorem ct_wed2 (N T w t : Nat) (hN8 : N ≤ 8) (hT8 : T ≤ 8) (hN : I 95 0 = nI N) (hT : I 95 1 = nI T) (ht : t < T) (hw : w < N) (h : ¬ I 95 (65 + 9 * t + 5) = nI w) : Ct G GAM mX10_wed (d + 2) 0 [.ref 94, .int (nI w), .int (nI t)] I (Rp (some (.int (nI 0))) (zup (zup I 94 0 (nI 0)) 94 0 (nI 2))) := by
  refine Ct.mk [some (.ref 94), some (.int (nI w)), some (.int (nI t)), none] ?_
  refine Rn.aload_n dX10_wed_0 rfl rfl ?_
  refine Rn.iconst (v := (nI 0)) dX10_wed_1 rfl ?_
  refine Rn.putI dX10_wed_2 fp_X10_3_9 (by first | rfl | exact gC0 (by assumption) | exact gL0 (by assumption)) rfl ?_
  refine Rn.aload_n dX10_wed_5 rfl rfl ?_
  refine Rn.aload_n dX10_wed_6 rfl rfl ?_
  refine Rn.iload_n dX10_wed_7 rfl rfl ?_
  refine Rn.callVp (As := [_]) dX10_wed_8 mv_X10_275 (by first | rfl | exact gC0 (by assumption) | exact gL0 (by assumption)) rfl rfl rfl (Nat.le_of_ble_eq_true rfl) (ct_noWomanN G _ _ _ N hN) ?_
  refine Rn.if_neB dX10_wed_11 22 (fun h9 => absurd h9 (fun q => q (vx_nI hw hN8))) (fun _ => ?_)
  refine Rn.aload_n dX10_wed_14 rfl rfl ?_
  refine Rn.iload_n dX10_wed_15 rfl rfl ?_
  refine Rn.callVp (As := [_]) dX10_wed_16 mv_X10_284 (by first | rfl | exact gC0 (by assumption) | exact gL0 (by assumption)) rfl rfl rfl (Nat.le_of_ble_eq_true rfl) (ct_noThingT G _ _ _ T hT) ?_
  refine Rn.if_eqB dX10_wed_19 26 (fun _ => ?_) (fun h9 => absurd h9 (fun q => q (vx_nI ht hT8)))
  refine Rn.iconst (v := (nI 0)) dX10_wed_26 rfl ?_
  refine Rn.iconst (v := (nI 1)) dX10_wed_27 rfl ?_
  refine Rn.callVp (As := [_, _]) dX10_wed_28 mv_X10_241 (by first | rfl | exact gC0 (by assumption) | exact gL0 (by assumption)) rfl rfl rfl (Nat.le_of_ble_eq_true rfl) (ct_throws0 G _ _ _) ?_
  refine Rn.if_neN dX10_wed_31 57 (fun h9 => by exfalso; omega) (fun _ => ?_)
  refine Rn.aload_n dX10_wed_34 rfl rfl ?_
  refine Rn.aload_n dX10_wed_35 rfl rfl ?_
  refine Rn.iload_n dX10_wed_36 rfl rfl ?_
  refine Rn.iconst (v := (nI 5)) dX10_wed_37 rfl ?_
  refine Rn.callVp (As := [_, _]) dX10_wed_38 mv_X10_71 (by first | rfl | exact gC0 (by assumption) | exact gL0 (by assumption)) rfl rfl rfl (Nat.le_of_ble_eq_true rfl) (ct_ofThing G _ _ _ _ (by omega)) ?_
  refine Rn.iload_n dX10_wed_41 rfl rfl ?_
  refine Rn.icmp_eq (tgt := 49) dX10_wed_42 (by decide) (fun h9 => by exfalso; exact h h9) (fun _ => ?_)
  refine Rn.iconst (v := (nI 1)) dX10_wed_45 rfl ?_
  refine Rn.goto 50 dX10_wed_46 (by decide) ?_
  refine Rn.iconst (v := (nI 2)) dX10_wed_50 rfl ?_
  refine Rn.callVp (As := [_, _]) dX10_wed_51 mv_X10_241 (by first | rfl | exact gC0 (by assumption) | exact gL0 (by assumption)) rfl rfl rfl (Nat.le_of_ble_eq_true rfl) (ct_throws1 G _ _ _) ?_
  refine Rn.if_eqN dX10_wed_54 59 (fun h9 => by exfalso; omega) (fun _ => ?_)
  refine Rn.iconst (v := (nI 0)) dX10_wed_57 rfl ?_
  exact Rn.iret dX10_wed_58 rfl (⟨rfl, rfl⟩)
theorem ct_wed0 (N T w t r : Nat) (hN8 : N ≤ 8) (hT8 : T ≤ 8) (hN : I 95 0 = nI N) (hT : I 95 1 = nI T) (ht : t < T) (hw : w < N) (hr : r ≤ 12) (h7 : I 94 7 = nI r) (h : I 95 (65 + 9 * t + 5) = nI w) (hR : LawR (I 95) op bg en L) :
    Ct G GAM mX10_wed (d + 8) 0 [.ref 94, .int (nI w), .int (nI t)] I (Rw (some (.int (gainV (I 95) op bg en L w t))) (ahd I r) (tellW (wedW (I 95) op bg en L w t) w t (gainV (I 95) op bg en L w t))) := by
  refine Ct.mk [some (.ref 94), some (.int (nI w)), some (.int (nI t)), none] ?_
  refine Rn.aload_n dX10_wed_0 rfl rfl ?_
  refine Rn.iconst (v := (nI 0)) dX10_wed_1 rfl ?_
  refine Rn.putI dX10_wed_2 fp_X10_3_9 (by first | rfl | exact gC0 (by assumption) | exact gL0 (by assumption)) rfl ?_
  refine Rn.aload_n dX10_wed_5 rfl rfl ?_
  refine Rn.aload_n dX10_wed_6 rfl rfl ?_
  refine Rn.iload_n dX10_wed_7 rfl rfl ?_
  refine Rn.callVp (As := [_]) dX10_wed_8 mv_X10_275 (by first | rfl | exact gC0 (by assumption) | exact gL0 (by assumption)) rfl rfl rfl (Nat.le_of_ble_eq_true rfl) (ct_noWomanN G _ _ _ N hN) ?_
  refine Rn.if_neB dX10_wed_11 22 (fun h9 => absurd h9 (fun q => q (vx_nI hw hN8))) (fun _ => ?_)
  refine Rn.aload_n dX10_wed_14 rfl rfl ?_
  refine Rn.iload_n dX10_wed_15 rfl rfl ?_
  refine Rn.callVp (As := [_]) dX10_wed_16 mv_X10_284 (by first | rfl | exact gC0 (by assumption) | exact gL0 (by assumption)) rfl rfl rfl (Nat.le_of_ble_eq_true rfl) (ct_noThingT G _ _ _ T hT) ?_
  refine Rn.if_eqB dX10_wed_19 26 (fun _ => ?_) (fun h9 => absurd h9 (fun q => q (vx_nI ht hT8)))
  refine Rn.iconst (v := (nI 0)) dX10_wed_26 rfl ?_
  refine Rn.iconst (v := (nI 1)) dX10_wed_27 rfl ?_
  refine Rn.callVp (As := [_, _]) dX10_wed_28 mv_X10_241 (by first | rfl | exact gC0 (by assumption) | exact gL0 (by assumption)) rfl rfl rfl (Nat.le_of_ble_eq_true rfl) (ct_throws0 G _ _ _) ?_
  refine Rn.if_neN dX10_wed_31 57 (fun h9 => by exfalso; omega) (fun _ => ?_)
  refine Rn.aload_n dX10_wed_34 rfl rfl ?_
  refine Rn.aload_n dX10_wed_35 rfl rfl ?_
  refine Rn.iload_n dX10_wed_36 rfl rfl ?_
  refine Rn.iconst (v := (nI 5)) dX10_wed_37 rfl ?_
  refine Rn.callVp (As := [_, _]) dX10_wed_38 mv_X10_71 (by first | rfl | exact gC0 (by assumption) | exact gL0 (by assumption)) rfl rfl rfl (Nat.le_of_ble_eq_true rfl) (ct_ofThing G _ _ _ _ (by omega)) ?_
  refine Rn.topI (nI w) (by exact h) ?_
  refine Rn.iload_n dX10_wed_41 rfl rfl ?_
  refine Rn.icmp_eqN dX10_wed_42 49 (fun _ => ?_) (fun h9 => by exfalso; omega)
  refine Rn.iconst (v := (nI 0)) dX10_wed_49 rfl ?_
  refine Rn.iconst (v := (nI 2)) dX10_wed_50 rfl ?_
  refine Rn.callVp (As := [_, _]) dX10_wed_51 mv_X10_241 (by first | rfl | exact gC0 (by assumption) | exact gL0 (by assumption)) rfl rfl rfl (Nat.le_of_ble_eq_true rfl) (ct_throws0 G _ _ _) ?_
  refine Rn.if_eqN dX10_wed_54 59 (fun _ => ?_) (fun h9 => by exfalso; omega)
  refine Rn.aload_n dX10_wed_59 rfl rfl ?_
  refine Rn.callVp (As := []) dX10_wed_60 mv_X10_333 (by first | rfl | exact gC0 (by assumption) | exact gL0 (by assumption)) rfl rfl rfl (Nat.le_of_ble_eq_true rfl) (ct_remembers G _ _ r hr h7) ?_
  refine Rn.hpp (zW (ahd I r) (I 102) (I 103) (I 95)) (zW_self (ahd I r)).symm ?_
  refine Rn.aload_n dX10_wed_63 rfl rfl ?_
  refine Rn.iload_n dX10_wed_64 rfl rfl ?_
  refine Rn.iload_n dX10_wed_65 rfl rfl ?_
  refine Rn.callVw (As := [_, _]) dX10_wed_66 mv_X10_320 (by first | rfl | exact gC0 (by assumption) | exact gL0 (by assumption)) rfl rfl rfl (Nat.le_of_ble_eq_true rfl) (ct_weds G _ _ op bg en L _ _ (by omega) (by omega) hR) (fun g h9 => ?_)
  refine Rn.istore_n dX10_wed_69 rfl (by decide) ?_
  refine Rn.aload_n dX10_wed_70 rfl rfl ?_
  refine Rn.iload_n dX10_wed_71 rfl rfl ?_
  refine Rn.iload_n dX10_wed_72 rfl rfl ?_
  refine Rn.iload_n dX10_wed_73 rfl rfl ?_
  refine Rn.callVp (As := [_, _, _]) dX10_wed_74 mv_X10_323 (by first | rfl | exact gC0 (by assumption) | exact gL0 (by assumption)) rfl rfl rfl (Nat.le_of_ble_eq_true rfl) (ct_tells G _ _ _ _ _) ?_
  refine Rn.iload_n dX10_wed_77 rfl rfl ?_
  refine Rn.iret dX10_wed_78 rfl ⟨rfl, g, h9, ?_⟩
  rw [zset_zset]
  rfl
theorem ct_pawn1 (T : Nat) (t : Int32) (hT : I 95 1 = nI T) (h : ¬ vx t T) : Ct G GAM mX10_pawn (d + 2) 0 [.ref 94, .int t] I (Rp (some (.int (nI 0))) (zup (zup I 94 0 (nI 0)) 94 0 (nI 1))) := by
  refine Ct.mk [some (.ref 94), some (.int t), none] ?_
  refine Rn.aload_n dX10_pawn_0 rfl rfl ?_
  refine Rn.iconst (v := (nI 0)) dX10_pawn_1 rfl ?_
  refine Rn.putI dX10_pawn_2 fp_X10_3_9 (by first | rfl | exact gC0 (by assumption) | exact gL0 (by assumption)) rfl ?_
  refine Rn.aload_n dX10_pawn_5 rfl rfl ?_
  refine Rn.aload_n dX10_pawn_6 rfl rfl ?_
  refine Rn.iload_n dX10_pawn_7 rfl rfl ?_
  refine Rn.callVp (As := [_]) dX10_pawn_8 mv_X10_284 (by first | rfl | exact gC0 (by assumption) | exact gL0 (by assumption)) rfl rfl rfl (Nat.le_of_ble_eq_true rfl) (ct_noThingT G _ _ _ T hT) ?_
  refine Rn.iconst (v := (nI 1)) dX10_pawn_11 rfl ?_
  refine Rn.callVp (As := [_, _]) dX10_pawn_12 mv_X10_241 (by first | rfl | exact gC0 (by assumption) | exact gL0 (by assumption)) rfl rfl rfl (Nat.le_of_ble_eq_true rfl) (ct_throwsT G _ _ _ h _) ?_
  refine Rn.if_eqB dX10_pawn_15 20 (fun h9 => absurd (h) h9) (fun _ => ?_)
  refine Rn.iconst (v := (nI 0)) dX10_pawn_18 rfl ?_
  exact Rn.iret dX10_pawn_19 rfl (⟨rfl, rfl⟩)
theorem ct_pawn2 (T t : Nat) (hT8 : T ≤ 8) (hT : I 95 1 = nI T) (ht : t < T) (h : ¬ I 95 (65 + 9 * t + 5) = I 95 (65 + 9 * t + 4) ∨ I 95 (65 + 9 * t + 7) = nI 1) : Ct G GAM mX10_pawn (d + 3) 0 [.ref 94, .int (nI t)] I (Rp (some (.int (nI 0))) (zup (zup I 94 0 (nI 0)) 94 0 (nI 2))) := by
  refine Ct.mk [some (.ref 94), some (.int (nI t)), none] ?_
  refine Rn.aload_n dX10_pawn_0 rfl rfl ?_
  refine Rn.iconst (v := (nI 0)) dX10_pawn_1 rfl ?_
  refine Rn.putI dX10_pawn_2 fp_X10_3_9 (by first | rfl | exact gC0 (by assumption) | exact gL0 (by assumption)) rfl ?_
  refine Rn.aload_n dX10_pawn_5 rfl rfl ?_
  refine Rn.aload_n dX10_pawn_6 rfl rfl ?_
  refine Rn.iload_n dX10_pawn_7 rfl rfl ?_
  refine Rn.callVp (As := [_]) dX10_pawn_8 mv_X10_284 (by first | rfl | exact gC0 (by assumption) | exact gL0 (by assumption)) rfl rfl rfl (Nat.le_of_ble_eq_true rfl) (ct_noThingT G _ _ _ T hT) ?_
  refine Rn.iconst (v := (nI 1)) dX10_pawn_11 rfl ?_
  refine Rn.callVp (As := [_, _]) dX10_pawn_12 mv_X10_241 (by first | rfl | exact gC0 (by assumption) | exact gL0 (by assumption)) rfl rfl rfl (Nat.le_of_ble_eq_true rfl) (ct_throwsF G _ _ _ (fun q => q (vx_nI ht hT8)) _) ?_
  refine Rn.if_eqB dX10_pawn_15 20 (fun _ => ?_) (fun h9 => absurd h9 (fun q => q (vx_nI ht hT8)))
  refine Rn.aload_n dX10_pawn_20 rfl rfl ?_
  refine Rn.iload_n dX10_pawn_21 rfl rfl ?_
  refine Rn.iconst (v := (nI 4)) dX10_pawn_22 rfl ?_
  refine Rn.callVp (As := [_, _]) dX10_pawn_23 mv_X10_71 (by first | rfl | exact gC0 (by assumption) | exact gL0 (by assumption)) rfl rfl rfl (Nat.le_of_ble_eq_true rfl) (ct_ofThing G _ _ _ _ (by omega)) ?_
  refine Rn.istore_n dX10_pawn_26 rfl (by decide) ?_
  refine Rn.aload_n dX10_pawn_27 rfl rfl ?_
  refine Rn.aload_n dX10_pawn_28 rfl rfl ?_
  refine Rn.iload_n dX10_pawn_29 rfl rfl ?_
  refine Rn.iconst (v := (nI 5)) dX10_pawn_30 rfl ?_
  refine Rn.callVp (As := [_, _]) dX10_pawn_31 mv_X10_71 (by first | rfl | exact gC0 (by assumption) | exact gL0 (by assumption)) rfl rfl rfl (Nat.le_of_ble_eq_true rfl) (ct_ofThing G _ _ _ _ (by omega)) ?_
  refine Rn.iload_n dX10_pawn_34 rfl rfl ?_
  refine Rn.icmp_ne (tgt := 46) dX10_pawn_35 (by decide) (fun h1 => ?_) (fun h1 => ?_)
  · refine Rn.iconst (v := (nI 1)) dX10_pawn_46 rfl ?_
    refine Rn.goto 51 dX10_pawn_47 (by decide) ?_
    refine Rn.iconst (v := (nI 2)) dX10_pawn_51 rfl ?_
    refine Rn.callVp (As := [_, _]) dX10_pawn_52 mv_X10_241 (by first | rfl | exact gC0 (by assumption) | exact gL0 (by assumption)) rfl rfl rfl (Nat.le_of_ble_eq_true rfl) (ct_throws1 G _ _ _) ?_
    refine Rn.if_eqN dX10_pawn_55 60 (fun h9 => by exfalso; omega) (fun _ => ?_)
    refine Rn.iconst (v := (nI 0)) dX10_pawn_58 rfl ?_
    exact Rn.iret dX10_pawn_59 rfl (⟨rfl, rfl⟩)
  · refine Rn.aload_n dX10_pawn_38 rfl rfl ?_
    refine Rn.iload_n dX10_pawn_39 rfl rfl ?_
    refine Rn.callVp (As := [_]) dX10_pawn_40 mv_X10_302 (by first | rfl | exact gC0 (by assumption) | exact gL0 (by assumption)) rfl rfl rfl (Nat.le_of_ble_eq_true rfl) (ct_isStuck G _ _ _ (by omega)) ?_
    refine Rn.if_eqB dX10_pawn_43 50 (fun h9 => absurd (h.resolve_left (fun q => q h1)) h9) (fun _ => ?_)
    refine Rn.iconst (v := (nI 1)) dX10_pawn_46 rfl ?_
    refine Rn.goto 51 dX10_pawn_47 (by decide) ?_
    refine Rn.iconst (v := (nI 2)) dX10_pawn_51 rfl ?_
    refine Rn.callVp (As := [_, _]) dX10_pawn_52 mv_X10_241 (by first | rfl | exact gC0 (by assumption) | exact gL0 (by assumption)) rfl rfl rfl (Nat.le_of_ble_eq_true rfl) (ct_throws1 G _ _ _) ?_
    refine Rn.if_eqN dX10_pawn_55 60 (fun h9 => by exfalso; omega) (fun _ => ?_)
    refine Rn.iconst (v := (nI 0)) dX10_pawn_58 rfl ?_
    exact Rn.iret dX10_pawn_59 rfl (⟨rfl, rfl⟩)
def pawnW (W : Nat → Int32) (t o : Nat) : Nat → Int32 := upd (upd W (65 + 9 * t + 5) (-1)) (9 + 7 * o + 4) (imin (nI 9999) (upd W (65 + 9 * t + 5) (-1) (9 + 7 * o + 4) + upd W (65 + 9 * t + 5) (-1) 5))
theorem ct_pawn0 (N T t o r : Nat) (hN8 : N ≤ 8) (hT8 : T ≤ 8) (hT : I 95 1 = nI T) (ht : t < T) (ho : o < N) (hr : r ≤ 12) (h7 : I 94 7 = nI r) (h4 : I 95 (65 + 9 * t + 4) = nI o) (h5 : I 95 (65 + 9 * t + 5) = nI o) (hs : ¬ I 95 (65 + 9 * t + 7) = nI 1) :
    Ct G GAM mX10_pawn (d + 3) 0 [.ref 94, .int (nI t)] I (Rp (some (.int (pawnW (I 95) t o (9 + 7 * o + 4)))) (zset (ahd I r) 95 (pawnW (I 95) t o))) := by
  refine Ct.mk [some (.ref 94), some (.int (nI t)), none] ?_
  refine Rn.aload_n dX10_pawn_0 rfl rfl ?_
  refine Rn.iconst (v := (nI 0)) dX10_pawn_1 rfl ?_
  refine Rn.putI dX10_pawn_2 fp_X10_3_9 (by first | rfl | exact gC0 (by assumption) | exact gL0 (by assumption)) rfl ?_
  refine Rn.aload_n dX10_pawn_5 rfl rfl ?_
  refine Rn.aload_n dX10_pawn_6 rfl rfl ?_
  refine Rn.iload_n dX10_pawn_7 rfl rfl ?_
  refine Rn.callVp (As := [_]) dX10_pawn_8 mv_X10_284 (by first | rfl | exact gC0 (by assumption) | exact gL0 (by assumption)) rfl rfl rfl (Nat.le_of_ble_eq_true rfl) (ct_noThingT G _ _ _ T hT) ?_
  refine Rn.iconst (v := (nI 1)) dX10_pawn_11 rfl ?_
  refine Rn.callVp (As := [_, _]) dX10_pawn_12 mv_X10_241 (by first | rfl | exact gC0 (by assumption) | exact gL0 (by assumption)) rfl rfl rfl (Nat.le_of_ble_eq_true rfl) (ct_throwsF G _ _ _ (fun q => q (vx_nI ht hT8)) _) ?_
  refine Rn.if_eqB dX10_pawn_15 20 (fun _ => ?_) (fun h9 => absurd h9 (fun q => q (vx_nI ht hT8)))
  refine Rn.aload_n dX10_pawn_20 rfl rfl ?_
  refine Rn.iload_n dX10_pawn_21 rfl rfl ?_
  refine Rn.iconst (v := (nI 4)) dX10_pawn_22 rfl ?_
  refine Rn.callVp (As := [_, _]) dX10_pawn_23 mv_X10_71 (by first | rfl | exact gC0 (by assumption) | exact gL0 (by assumption)) rfl rfl rfl (Nat.le_of_ble_eq_true rfl) (ct_ofThing G _ _ _ _ (by omega)) ?_
  refine Rn.topI (nI o) (by exact h4) ?_
  refine Rn.istore_n dX10_pawn_26 rfl (by decide) ?_
  refine Rn.aload_n dX10_pawn_27 rfl rfl ?_
  refine Rn.aload_n dX10_pawn_28 rfl rfl ?_
  refine Rn.iload_n dX10_pawn_29 rfl rfl ?_
  refine Rn.iconst (v := (nI 5)) dX10_pawn_30 rfl ?_
  refine Rn.callVp (As := [_, _]) dX10_pawn_31 mv_X10_71 (by first | rfl | exact gC0 (by assumption) | exact gL0 (by assumption)) rfl rfl rfl (Nat.le_of_ble_eq_true rfl) (ct_ofThing G _ _ _ _ (by omega)) ?_
  refine Rn.topI (nI o) (by exact h5) ?_
  refine Rn.iload_n dX10_pawn_34 rfl rfl ?_
  refine Rn.icmp_neN dX10_pawn_35 46 (fun h9 => by exfalso; omega) (fun _ => ?_)
  refine Rn.aload_n dX10_pawn_38 rfl rfl ?_
  refine Rn.iload_n dX10_pawn_39 rfl rfl ?_
  refine Rn.callVp (As := [_]) dX10_pawn_40 mv_X10_302 (by first | rfl | exact gC0 (by assumption) | exact gL0 (by assumption)) rfl rfl rfl (Nat.le_of_ble_eq_true rfl) (ct_isStuck G _ _ _ (by omega)) ?_
  refine Rn.if_eqB dX10_pawn_43 50 (fun _ => ?_) (fun h9 => absurd h9 (hs))
  refine Rn.iconst (v := (nI 0)) dX10_pawn_50 rfl ?_
  refine Rn.iconst (v := (nI 2)) dX10_pawn_51 rfl ?_
  refine Rn.callVp (As := [_, _]) dX10_pawn_52 mv_X10_241 (by first | rfl | exact gC0 (by assumption) | exact gL0 (by assumption)) rfl rfl rfl (Nat.le_of_ble_eq_true rfl) (ct_throws0 G _ _ _) ?_
  refine Rn.if_eqN dX10_pawn_55 60 (fun _ => ?_) (fun h9 => by exfalso; omega)
  refine Rn.aload_n dX10_pawn_60 rfl rfl ?_
  refine Rn.callVp (As := []) dX10_pawn_61 mv_X10_333 (by first | rfl | exact gC0 (by assumption) | exact gL0 (by assumption)) rfl rfl rfl (Nat.le_of_ble_eq_true rfl) (ct_remembers G _ _ r hr h7) ?_
  refine Rn.hpp (zset (ahd I r) 95 (I 95)) (zset_self (ahd I r) 95).symm ?_
  refine Rn.aload_n dX10_pawn_64 rfl rfl ?_
  refine Rn.getR dX10_pawn_65 fd_X10_13_9 (by first | rfl | exact gC0 (by assumption) | exact gL0 (by assumption)) rfl ?_
  refine Rn.iload_n dX10_pawn_68 rfl rfl ?_
  refine Rn.iconst (v := (nI 5)) dX10_pawn_69 rfl ?_
  refine Rn.callSp (As := [_, _]) dX10_pawn_70 ms_X10_68 rfl rfl (Nat.le_of_ble_eq_true rfl) (ct_thingAt G _ _ _ _) ?_
  refine Rn.iconst (v := (-1)) dX10_pawn_73 rfl ?_
  refine Rn.iastN dX10_pawn_74 (by first | rfl | exact gC1 (by assumption) | exact gC2 (by assumption) | exact gC3 (by assumption) | exact gL1 (by assumption) | exact gL2 (by assumption) | exact gL3 (by assumption) | exact gL4 (by assumption) | exact gL5 (by assumption) | exact gL6 (by assumption)) ?_
  refine Rn.hpp _ (zup_zset _ _ _ _ _) ?_
  refine Rn.aload_n dX10_pawn_75 rfl rfl ?_
  refine Rn.getR dX10_pawn_76 fd_X10_13_9 (by first | rfl | exact gC0 (by assumption) | exact gL0 (by assumption)) rfl ?_
  refine Rn.iload_n dX10_pawn_79 rfl rfl ?_
  refine Rn.iconst (v := (nI 4)) dX10_pawn_80 rfl ?_
  refine Rn.callSp (As := [_, _]) dX10_pawn_81 ms_X10_61 rfl rfl (Nat.le_of_ble_eq_true rfl) (ct_womanAt G _ _ _ _) ?_
  refine Rn.sipush (v := (nI 9999)) dX10_pawn_84 rfl ?_
  refine Rn.aload_n dX10_pawn_87 rfl rfl ?_
  refine Rn.iload_n dX10_pawn_88 rfl rfl ?_
  refine Rn.iconst (v := (nI 4)) dX10_pawn_89 rfl ?_
  refine Rn.callVp (As := [_, _]) dX10_pawn_90 mv_X10_65 (by first | rfl | exact gC0 (by assumption) | exact gL0 (by assumption)) rfl rfl rfl (Nat.le_of_ble_eq_true rfl) (ct_of G _ _ _ _ (by omega)) ?_
  refine Rn.aload_n dX10_pawn_93 rfl rfl ?_
  refine Rn.getR dX10_pawn_94 fd_X10_13_9 (by first | rfl | exact gC0 (by assumption) | exact gL0 (by assumption)) rfl ?_
  refine Rn.iconst (v := (nI 5)) dX10_pawn_97 rfl ?_
  refine Rn.ialdN dX10_pawn_98 (by first | rfl | exact gC1 (by assumption) | exact gC2 (by assumption) | exact gC3 (by assumption) | exact gL1 (by assumption) | exact gL2 (by assumption) | exact gL3 (by assumption) | exact gL4 (by assumption) | exact gL5 (by assumption) | exact gL6 (by assumption)) ?_
  refine Rn.iadd dX10_pawn_99 ?_
  refine Rn.mmin dX10_pawn_100 ms_X10_266 (Nat.le_of_ble_eq_true rfl) ?_
  refine Rn.iastN dX10_pawn_103 (by first | rfl | exact gC1 (by assumption) | exact gC2 (by assumption) | exact gC3 (by assumption) | exact gL1 (by assumption) | exact gL2 (by assumption) | exact gL3 (by assumption) | exact gL4 (by assumption) | exact gL5 (by assumption) | exact gL6 (by assumption)) ?_
  refine Rn.hpp (zset (ahd I r) 95 (pawnW (I 95) t o)) (zup_zset _ _ _ _ _) ?_
  refine Rn.aload_n dX10_pawn_104 rfl rfl ?_
  refine Rn.iload_n dX10_pawn_105 rfl rfl ?_
  refine Rn.iconst (v := (nI 4)) dX10_pawn_106 rfl ?_
  refine Rn.callVp (As := [_, _]) dX10_pawn_107 mv_X10_65 (by first | rfl | exact gC0 (by assumption) | exact gL0 (by assumption)) rfl rfl rfl (Nat.le_of_ble_eq_true rfl) (ct_of G _ _ _ _ (by omega)) ?_
  exact Rn.iret dX10_pawn_110 rfl (⟨rfl, rfl⟩)
theorem ct_redeem1 (T : Nat) (t : Int32) (hT : I 95 1 = nI T) (h : ¬ vx t T) : Ct G GAM mX10_redeem (d + 2) 0 [.ref 94, .int t] I (Rp (some (.int (nI 0))) (zup (zup I 94 0 (nI 0)) 94 0 (nI 1))) := by
  refine Ct.mk [some (.ref 94), some (.int t), none] ?_
  refine Rn.aload_n dX10_redeem_0 rfl rfl ?_
  refine Rn.iconst (v := (nI 0)) dX10_redeem_1 rfl ?_
  refine Rn.putI dX10_redeem_2 fp_X10_3_9 (by first | rfl | exact gC0 (by assumption) | exact gL0 (by assumption)) rfl ?_
  refine Rn.aload_n dX10_redeem_5 rfl rfl ?_
  refine Rn.aload_n dX10_redeem_6 rfl rfl ?_
  refine Rn.iload_n dX10_redeem_7 rfl rfl ?_
  refine Rn.callVp (As := [_]) dX10_redeem_8 mv_X10_284 (by first | rfl | exact gC0 (by assumption) | exact gL0 (by assumption)) rfl rfl rfl (Nat.le_of_ble_eq_true rfl) (ct_noThingT G _ _ _ T hT) ?_
  refine Rn.iconst (v := (nI 1)) dX10_redeem_11 rfl ?_
  refine Rn.callVp (As := [_, _]) dX10_redeem_12 mv_X10_241 (by first | rfl | exact gC0 (by assumption) | exact gL0 (by assumption)) rfl rfl rfl (Nat.le_of_ble_eq_true rfl) (ct_throwsT G _ _ _ h _) ?_
  refine Rn.if_eqB dX10_redeem_15 20 (fun h9 => absurd (h) h9) (fun _ => ?_)
  refine Rn.iconst (v := (nI 0)) dX10_redeem_18 rfl ?_
  exact Rn.iret dX10_redeem_19 rfl (⟨rfl, rfl⟩)
theorem ct_redeem2 (N T t o : Nat) (hN8 : N ≤ 8) (hT8 : T ≤ 8) (hT : I 95 1 = nI T) (ht : t < T) (ho : o < N) (h4 : I 95 (65 + 9 * t + 4) = nI o) (h : ¬ I 95 (65 + 9 * t + 5) = -1 ∨ I 95 (9 + 7 * o + 4) < nI 2 * I 95 5) : Ct G GAM mX10_redeem (d + 3) 0 [.ref 94, .int (nI t)] I (Rp (some (.int (nI 0))) (zup (zup I 94 0 (nI 0)) 94 0 (nI 2))) := by
  refine Ct.mk [some (.ref 94), some (.int (nI t)), none] ?_
  refine Rn.aload_n dX10_redeem_0 rfl rfl ?_
  refine Rn.iconst (v := (nI 0)) dX10_redeem_1 rfl ?_
  refine Rn.putI dX10_redeem_2 fp_X10_3_9 (by first | rfl | exact gC0 (by assumption) | exact gL0 (by assumption)) rfl ?_
  refine Rn.aload_n dX10_redeem_5 rfl rfl ?_
  refine Rn.aload_n dX10_redeem_6 rfl rfl ?_
  refine Rn.iload_n dX10_redeem_7 rfl rfl ?_
  refine Rn.callVp (As := [_]) dX10_redeem_8 mv_X10_284 (by first | rfl | exact gC0 (by assumption) | exact gL0 (by assumption)) rfl rfl rfl (Nat.le_of_ble_eq_true rfl) (ct_noThingT G _ _ _ T hT) ?_
  refine Rn.iconst (v := (nI 1)) dX10_redeem_11 rfl ?_
  refine Rn.callVp (As := [_, _]) dX10_redeem_12 mv_X10_241 (by first | rfl | exact gC0 (by assumption) | exact gL0 (by assumption)) rfl rfl rfl (Nat.le_of_ble_eq_true rfl) (ct_throwsF G _ _ _ (fun q => q (vx_nI ht hT8)) _) ?_
  refine Rn.if_eqB dX10_redeem_15 20 (fun _ => ?_) (fun h9 => absurd h9 (fun q => q (vx_nI ht hT8)))
  refine Rn.aload_n dX10_redeem_20 rfl rfl ?_
  refine Rn.iload_n dX10_redeem_21 rfl rfl ?_
  refine Rn.iconst (v := (nI 4)) dX10_redeem_22 rfl ?_
  refine Rn.callVp (As := [_, _]) dX10_redeem_23 mv_X10_71 (by first | rfl | exact gC0 (by assumption) | exact gL0 (by assumption)) rfl rfl rfl (Nat.le_of_ble_eq_true rfl) (ct_ofThing G _ _ _ _ (by omega)) ?_
  refine Rn.topI (nI o) (by exact h4) ?_
  refine Rn.istore_n dX10_redeem_26 rfl (by decide) ?_
  refine Rn.aload_n dX10_redeem_27 rfl rfl ?_
  refine Rn.aload_n dX10_redeem_28 rfl rfl ?_
  refine Rn.iload_n dX10_redeem_29 rfl rfl ?_
  refine Rn.callVp (As := [_]) dX10_redeem_30 mv_X10_305 (by first | rfl | exact gC0 (by assumption) | exact gL0 (by assumption)) rfl rfl rfl (Nat.le_of_ble_eq_true rfl) (ct_isPawned G _ _ _ (by omega)) ?_
  refine Rn.if_eqB dX10_redeem_33 53 (fun h1 => ?_) (fun h1 => ?_)
  · refine Rn.iconst (v := (nI 1)) dX10_redeem_53 rfl ?_
    refine Rn.goto 58 dX10_redeem_54 (by decide) ?_
    refine Rn.iconst (v := (nI 2)) dX10_redeem_58 rfl ?_
    refine Rn.callVp (As := [_, _]) dX10_redeem_59 mv_X10_241 (by first | rfl | exact gC0 (by assumption) | exact gL0 (by assumption)) rfl rfl rfl (Nat.le_of_ble_eq_true rfl) (ct_throws1 G _ _ _) ?_
    refine Rn.if_eqN dX10_redeem_62 67 (fun h9 => by exfalso; omega) (fun _ => ?_)
    refine Rn.iconst (v := (nI 0)) dX10_redeem_65 rfl ?_
    exact Rn.iret dX10_redeem_66 rfl (⟨rfl, rfl⟩)
  · refine Rn.aload_n dX10_redeem_36 rfl rfl ?_
    refine Rn.iload_n dX10_redeem_37 rfl rfl ?_
    refine Rn.iconst (v := (nI 4)) dX10_redeem_38 rfl ?_
    refine Rn.callVp (As := [_, _]) dX10_redeem_39 mv_X10_65 (by first | rfl | exact gC0 (by assumption) | exact gL0 (by assumption)) rfl rfl rfl (Nat.le_of_ble_eq_true rfl) (ct_of G _ _ _ _ (by omega)) ?_
    refine Rn.iconst (v := (nI 2)) dX10_redeem_42 rfl ?_
    refine Rn.aload_n dX10_redeem_43 rfl rfl ?_
    refine Rn.getR dX10_redeem_44 fd_X10_13_9 (by first | rfl | exact gC0 (by assumption) | exact gL0 (by assumption)) rfl ?_
    refine Rn.iconst (v := (nI 5)) dX10_redeem_47 rfl ?_
    refine Rn.ialdN dX10_redeem_48 (by first | rfl | exact gC1 (by assumption) | exact gC2 (by assumption) | exact gC3 (by assumption) | exact gL1 (by assumption) | exact gL2 (by assumption) | exact gL3 (by assumption) | exact gL4 (by assumption) | exact gL5 (by assumption) | exact gL6 (by assumption)) ?_
    refine Rn.imul dX10_redeem_49 ?_
    refine Rn.icmp_ge (tgt := 57) dX10_redeem_50 (by decide) (fun h9 => by exfalso; exact absurd (h.resolve_left (fun q => q h1)) (Int32.not_lt.mpr h9)) (fun _ => ?_)
    refine Rn.iconst (v := (nI 1)) dX10_redeem_53 rfl ?_
    refine Rn.goto 58 dX10_redeem_54 (by decide) ?_
    refine Rn.iconst (v := (nI 2)) dX10_redeem_58 rfl ?_
    refine Rn.callVp (As := [_, _]) dX10_redeem_59 mv_X10_241 (by first | rfl | exact gC0 (by assumption) | exact gL0 (by assumption)) rfl rfl rfl (Nat.le_of_ble_eq_true rfl) (ct_throws1 G _ _ _) ?_
    refine Rn.if_eqN dX10_redeem_62 67 (fun h9 => by exfalso; omega) (fun _ => ?_)
    refine Rn.iconst (v := (nI 0)) dX10_redeem_65 rfl ?_
    exact Rn.iret dX10_redeem_66 rfl (⟨rfl, rfl⟩)
def redeW (W : Nat → Int32) (t o : Nat) : Nat → Int32 := upd (upd W (65 + 9 * t + 5) (nI o)) (9 + 7 * o + 4) (upd W (65 + 9 * t + 5) (nI o) (9 + 7 * o + 4) - nI 2 * upd W (65 + 9 * t + 5) (nI o) 5)
theorem ct_redeem0 (N T t o r : Nat) (hN8 : N ≤ 8) (hT8 : T ≤ 8) (hT : I 95 1 = nI T) (ht : t < T) (ho : o < N) (hr : r ≤ 12) (h7 : I 94 7 = nI r) (h4 : I 95 (65 + 9 * t + 4) = nI o) (h5 : I 95 (65 + 9 * t + 5) = -1) (hp : ¬ I 95 (9 + 7 * o + 4) < nI 2 * I 95 5) :
    Ct G GAM mX10_redeem (d + 3) 0 [.ref 94, .int (nI t)] I (Rp (some (.int (redeW (I 95) t o (9 + 7 * o + 4)))) (zset (ahd I r) 95 (redeW (I 95) t o))) := by
  refine Ct.mk [some (.ref 94), some (.int (nI t)), none] ?_
  refine Rn.aload_n dX10_redeem_0 rfl rfl ?_
  refine Rn.iconst (v := (nI 0)) dX10_redeem_1 rfl ?_
  refine Rn.putI dX10_redeem_2 fp_X10_3_9 (by first | rfl | exact gC0 (by assumption) | exact gL0 (by assumption)) rfl ?_
  refine Rn.aload_n dX10_redeem_5 rfl rfl ?_
  refine Rn.aload_n dX10_redeem_6 rfl rfl ?_
  refine Rn.iload_n dX10_redeem_7 rfl rfl ?_
  refine Rn.callVp (As := [_]) dX10_redeem_8 mv_X10_284 (by first | rfl | exact gC0 (by assumption) | exact gL0 (by assumption)) rfl rfl rfl (Nat.le_of_ble_eq_true rfl) (ct_noThingT G _ _ _ T hT) ?_
  refine Rn.iconst (v := (nI 1)) dX10_redeem_11 rfl ?_
  refine Rn.callVp (As := [_, _]) dX10_redeem_12 mv_X10_241 (by first | rfl | exact gC0 (by assumption) | exact gL0 (by assumption)) rfl rfl rfl (Nat.le_of_ble_eq_true rfl) (ct_throwsF G _ _ _ (fun q => q (vx_nI ht hT8)) _) ?_
  refine Rn.if_eqB dX10_redeem_15 20 (fun _ => ?_) (fun h9 => absurd h9 (fun q => q (vx_nI ht hT8)))
  refine Rn.aload_n dX10_redeem_20 rfl rfl ?_
  refine Rn.iload_n dX10_redeem_21 rfl rfl ?_
  refine Rn.iconst (v := (nI 4)) dX10_redeem_22 rfl ?_
  refine Rn.callVp (As := [_, _]) dX10_redeem_23 mv_X10_71 (by first | rfl | exact gC0 (by assumption) | exact gL0 (by assumption)) rfl rfl rfl (Nat.le_of_ble_eq_true rfl) (ct_ofThing G _ _ _ _ (by omega)) ?_
  refine Rn.topI (nI o) (by exact h4) ?_
  refine Rn.istore_n dX10_redeem_26 rfl (by decide) ?_
  refine Rn.aload_n dX10_redeem_27 rfl rfl ?_
  refine Rn.aload_n dX10_redeem_28 rfl rfl ?_
  refine Rn.iload_n dX10_redeem_29 rfl rfl ?_
  refine Rn.callVp (As := [_]) dX10_redeem_30 mv_X10_305 (by first | rfl | exact gC0 (by assumption) | exact gL0 (by assumption)) rfl rfl rfl (Nat.le_of_ble_eq_true rfl) (ct_isPawned G _ _ _ (by omega)) ?_
  refine Rn.if_eqB dX10_redeem_33 53 (fun h9 => absurd (h5) h9) (fun _ => ?_)
  refine Rn.aload_n dX10_redeem_36 rfl rfl ?_
  refine Rn.iload_n dX10_redeem_37 rfl rfl ?_
  refine Rn.iconst (v := (nI 4)) dX10_redeem_38 rfl ?_
  refine Rn.callVp (As := [_, _]) dX10_redeem_39 mv_X10_65 (by first | rfl | exact gC0 (by assumption) | exact gL0 (by assumption)) rfl rfl rfl (Nat.le_of_ble_eq_true rfl) (ct_of G _ _ _ _ (by omega)) ?_
  refine Rn.iconst (v := (nI 2)) dX10_redeem_42 rfl ?_
  refine Rn.aload_n dX10_redeem_43 rfl rfl ?_
  refine Rn.getR dX10_redeem_44 fd_X10_13_9 (by first | rfl | exact gC0 (by assumption) | exact gL0 (by assumption)) rfl ?_
  refine Rn.iconst (v := (nI 5)) dX10_redeem_47 rfl ?_
  refine Rn.ialdN dX10_redeem_48 (by first | rfl | exact gC1 (by assumption) | exact gC2 (by assumption) | exact gC3 (by assumption) | exact gL1 (by assumption) | exact gL2 (by assumption) | exact gL3 (by assumption) | exact gL4 (by assumption) | exact gL5 (by assumption) | exact gL6 (by assumption)) ?_
  refine Rn.imul dX10_redeem_49 ?_
  refine Rn.icmp_ge (tgt := 57) dX10_redeem_50 (by decide) (fun _ => ?_) (fun h9 => by exfalso; exact h9 (Int32.not_lt.mp hp))
  refine Rn.iconst (v := (nI 0)) dX10_redeem_57 rfl ?_
  refine Rn.iconst (v := (nI 2)) dX10_redeem_58 rfl ?_
  refine Rn.callVp (As := [_, _]) dX10_redeem_59 mv_X10_241 (by first | rfl | exact gC0 (by assumption) | exact gL0 (by assumption)) rfl rfl rfl (Nat.le_of_ble_eq_true rfl) (ct_throws0 G _ _ _) ?_
  refine Rn.if_eqN dX10_redeem_62 67 (fun _ => ?_) (fun h9 => by exfalso; omega)
  refine Rn.aload_n dX10_redeem_67 rfl rfl ?_
  refine Rn.callVp (As := []) dX10_redeem_68 mv_X10_333 (by first | rfl | exact gC0 (by assumption) | exact gL0 (by assumption)) rfl rfl rfl (Nat.le_of_ble_eq_true rfl) (ct_remembers G _ _ r hr h7) ?_
  refine Rn.hpp (zset (ahd I r) 95 (I 95)) (zset_self (ahd I r) 95).symm ?_
  refine Rn.aload_n dX10_redeem_71 rfl rfl ?_
  refine Rn.getR dX10_redeem_72 fd_X10_13_9 (by first | rfl | exact gC0 (by assumption) | exact gL0 (by assumption)) rfl ?_
  refine Rn.iload_n dX10_redeem_75 rfl rfl ?_
  refine Rn.iconst (v := (nI 5)) dX10_redeem_76 rfl ?_
  refine Rn.callSp (As := [_, _]) dX10_redeem_77 ms_X10_68 rfl rfl (Nat.le_of_ble_eq_true rfl) (ct_thingAt G _ _ _ _) ?_
  refine Rn.iload_n dX10_redeem_80 rfl rfl ?_
  refine Rn.iastN dX10_redeem_81 (by first | rfl | exact gC1 (by assumption) | exact gC2 (by assumption) | exact gC3 (by assumption) | exact gL1 (by assumption) | exact gL2 (by assumption) | exact gL3 (by assumption) | exact gL4 (by assumption) | exact gL5 (by assumption) | exact gL6 (by assumption)) ?_
  refine Rn.hpp _ (zup_zset _ _ _ _ _) ?_
  refine Rn.aload_n dX10_redeem_82 rfl rfl ?_
  refine Rn.getR dX10_redeem_83 fd_X10_13_9 (by first | rfl | exact gC0 (by assumption) | exact gL0 (by assumption)) rfl ?_
  refine Rn.iload_n dX10_redeem_86 rfl rfl ?_
  refine Rn.iconst (v := (nI 4)) dX10_redeem_87 rfl ?_
  refine Rn.callSp (As := [_, _]) dX10_redeem_88 ms_X10_61 rfl rfl (Nat.le_of_ble_eq_true rfl) (ct_womanAt G _ _ _ _) ?_
  refine Rn.dup2 dX10_redeem_91 rfl rfl ?_
  refine Rn.ialdN dX10_redeem_92 (by first | rfl | exact gC1 (by assumption) | exact gC2 (by assumption) | exact gC3 (by assumption) | exact gL1 (by assumption) | exact gL2 (by assumption) | exact gL3 (by assumption) | exact gL4 (by assumption) | exact gL5 (by assumption) | exact gL6 (by assumption)) ?_
  refine Rn.iconst (v := (nI 2)) dX10_redeem_93 rfl ?_
  refine Rn.aload_n dX10_redeem_94 rfl rfl ?_
  refine Rn.getR dX10_redeem_95 fd_X10_13_9 (by first | rfl | exact gC0 (by assumption) | exact gL0 (by assumption)) rfl ?_
  refine Rn.iconst (v := (nI 5)) dX10_redeem_98 rfl ?_
  refine Rn.ialdN dX10_redeem_99 (by first | rfl | exact gC1 (by assumption) | exact gC2 (by assumption) | exact gC3 (by assumption) | exact gL1 (by assumption) | exact gL2 (by assumption) | exact gL3 (by assumption) | exact gL4 (by assumption) | exact gL5 (by assumption) | exact gL6 (by assumption)) ?_
  refine Rn.imul dX10_redeem_100 ?_
  refine Rn.isub dX10_redeem_101 ?_
  refine Rn.iastN dX10_redeem_102 (by first | rfl | exact gC1 (by assumption) | exact gC2 (by assumption) | exact gC3 (by assumption) | exact gL1 (by assumption) | exact gL2 (by assumption) | exact gL3 (by assumption) | exact gL4 (by assumption) | exact gL5 (by assumption) | exact gL6 (by assumption)) ?_
  refine Rn.hpp (zset (ahd I r) 95 (redeW (I 95) t o)) (zup_zset _ _ _ _ _) ?_
  refine Rn.aload_n dX10_redeem_103 rfl rfl ?_
  refine Rn.iload_n dX10_redeem_104 rfl rfl ?_
  refine Rn.iconst (v := (nI 4)) dX10_redeem_105 rfl ?_
  refine Rn.callVp (As := [_, _]) dX10_redeem_106 mv_X10_65 (by first | rfl | exact gC0 (by assumption) | exact gL0 (by assumption)) rfl rfl rfl (Nat.le_of_ble_eq_true rfl) (ct_of G _ _ _ _ (by omega)) ?_
  exact Rn.iret dX10_redeem_109 rfl (⟨rfl, rfl⟩)
theorem ct_cut1 (T : Nat) (t : Int32) (hT : I 95 1 = nI T) (h : ¬ vx t T) : Ct G GAM mX10_cut (d + 2) 0 [.ref 94, .int t] I (Rp (some (.int (nI 0))) (zup (zup I 94 0 (nI 0)) 94 0 (nI 1))) := by
  refine Ct.mk [some (.ref 94), some (.int t), none] ?_
  refine Rn.aload_n dX10_cut_0 rfl rfl ?_
  refine Rn.iconst (v := (nI 0)) dX10_cut_1 rfl ?_
  refine Rn.putI dX10_cut_2 fp_X10_3_9 (by first | rfl | exact gC0 (by assumption) | exact gL0 (by assumption)) rfl ?_
  refine Rn.aload_n dX10_cut_5 rfl rfl ?_
  refine Rn.aload_n dX10_cut_6 rfl rfl ?_
  refine Rn.iload_n dX10_cut_7 rfl rfl ?_
  refine Rn.callVp (As := [_]) dX10_cut_8 mv_X10_284 (by first | rfl | exact gC0 (by assumption) | exact gL0 (by assumption)) rfl rfl rfl (Nat.le_of_ble_eq_true rfl) (ct_noThingT G _ _ _ T hT) ?_
  refine Rn.iconst (v := (nI 1)) dX10_cut_11 rfl ?_
  refine Rn.callVp (As := [_, _]) dX10_cut_12 mv_X10_241 (by first | rfl | exact gC0 (by assumption) | exact gL0 (by assumption)) rfl rfl rfl (Nat.le_of_ble_eq_true rfl) (ct_throwsT G _ _ _ h _) ?_
  refine Rn.if_neB dX10_cut_15 39 (fun _ => ?_) (fun h9 => absurd (h) h9)
  refine Rn.iconst (v := (nI 0)) dX10_cut_39 rfl ?_
  exact Rn.iret dX10_cut_40 rfl (⟨rfl, rfl⟩)
theorem ct_cut2 (T t : Nat) (hT8 : T ≤ 8) (hT : I 95 1 = nI T) (ht : t < T) (h : ¬ I 95 (65 + 9 * t + 7) = nI 1) : Ct G GAM mX10_cut (d + 3) 0 [.ref 94, .int (nI t)] I (Rp (some (.int (nI 0))) (zup (zup I 94 0 (nI 0)) 94 0 (nI 2))) := by
  refine Ct.mk [some (.ref 94), some (.int (nI t)), none] ?_
  refine Rn.aload_n dX10_cut_0 rfl rfl ?_
  refine Rn.iconst (v := (nI 0)) dX10_cut_1 rfl ?_
  refine Rn.putI dX10_cut_2 fp_X10_3_9 (by first | rfl | exact gC0 (by assumption) | exact gL0 (by assumption)) rfl ?_
  refine Rn.aload_n dX10_cut_5 rfl rfl ?_
  refine Rn.aload_n dX10_cut_6 rfl rfl ?_
  refine Rn.iload_n dX10_cut_7 rfl rfl ?_
  refine Rn.callVp (As := [_]) dX10_cut_8 mv_X10_284 (by first | rfl | exact gC0 (by assumption) | exact gL0 (by assumption)) rfl rfl rfl (Nat.le_of_ble_eq_true rfl) (ct_noThingT G _ _ _ T hT) ?_
  refine Rn.iconst (v := (nI 1)) dX10_cut_11 rfl ?_
  refine Rn.callVp (As := [_, _]) dX10_cut_12 mv_X10_241 (by first | rfl | exact gC0 (by assumption) | exact gL0 (by assumption)) rfl rfl rfl (Nat.le_of_ble_eq_true rfl) (ct_throwsF G _ _ _ (fun q => q (vx_nI ht hT8)) _) ?_
  refine Rn.if_neB dX10_cut_15 39 (fun h9 => absurd h9 (fun q => q (vx_nI ht hT8))) (fun _ => ?_)
  refine Rn.aload_n dX10_cut_18 rfl rfl ?_
  refine Rn.aload_n dX10_cut_19 rfl rfl ?_
  refine Rn.iload_n dX10_cut_20 rfl rfl ?_
  refine Rn.callVp (As := [_]) dX10_cut_21 mv_X10_302 (by first | rfl | exact gC0 (by assumption) | exact gL0 (by assumption)) rfl rfl rfl (Nat.le_of_ble_eq_true rfl) (ct_isStuck G _ _ _ (by omega)) ?_
  refine Rn.if_neB dX10_cut_24 31 (fun h9 => absurd h9 (h)) (fun _ => ?_)
  refine Rn.iconst (v := (nI 1)) dX10_cut_27 rfl ?_
  refine Rn.goto 32 dX10_cut_28 (by decide) ?_
  refine Rn.iconst (v := (nI 2)) dX10_cut_32 rfl ?_
  refine Rn.callVp (As := [_, _]) dX10_cut_33 mv_X10_241 (by first | rfl | exact gC0 (by assumption) | exact gL0 (by assumption)) rfl rfl rfl (Nat.le_of_ble_eq_true rfl) (ct_throws1 G _ _ _) ?_
  refine Rn.if_eqN dX10_cut_36 41 (fun h9 => by exfalso; omega) (fun _ => ?_)
  refine Rn.iconst (v := (nI 0)) dX10_cut_39 rfl ?_
  exact Rn.iret dX10_cut_40 rfl (⟨rfl, rfl⟩)
def cutS (W : Nat → Int32) (t : Nat) : Nat → Nat → Int32
  | 0 => W
  | s + 1 => upd (cutS W t s) (65 + 9 * t + s) (cutS W t s (65 + 9 * t + s) / nI 2)
def cutW (W : Nat → Int32) (t : Nat) : Nat → Int32 := cutS (upd W (65 + 9 * t + 7) (nI 0)) t 4
theorem lp_cut {kx : Kx} {b : Nat} (J : Hi) (W0 : Nat → Int32) (t : Nat) (ht : t < 8) (k : Rn G GAM mX10_cut kx (d + 3) b 84 [some (.ref 94), some (.int (nI t)), some (.int (nI 4))] [] (zset J 95 (cutS W0 t 4))) : ∀ n s : Nat, s + n = 4 → Rn G GAM mX10_cut kx (d + 3) b 59 [some (.ref 94), some (.int (nI t)), some (.int (nI s))] [] (zset J 95 (cutS W0 t s)) := by
  intro n
  induction n with
  | zero =>
    intro s hs
    obtain rfl : s = 4 := by omega
    refine Rn.iload_n dX10_cut_59 rfl rfl ?_
    refine Rn.iconst (v := (nI 4)) dX10_cut_60 rfl ?_
    refine Rn.icmp_geN dX10_cut_61 84 (fun _ => ?_) (fun h9 => by exfalso; omega)
    exact k
  | succ n ih =>
    intro s hs
    refine Rn.iload_n dX10_cut_59 rfl rfl ?_
    refine Rn.iconst (v := (nI 4)) dX10_cut_60 rfl ?_
    refine Rn.icmp_geN dX10_cut_61 84 (fun h9 => by exfalso; omega) (fun _ => ?_)
    refine Rn.aload_n dX10_cut_64 rfl rfl ?_
    refine Rn.getR dX10_cut_65 fd_X10_13_9 (by first | rfl | exact gC0 (by assumption) | exact gL0 (by assumption)) rfl ?_
    refine Rn.iload_n dX10_cut_68 rfl rfl ?_
    refine Rn.iload_n dX10_cut_69 rfl rfl ?_
    refine Rn.callSp (As := [_, _]) dX10_cut_70 ms_X10_68 rfl rfl (Nat.le_of_ble_eq_true rfl) (ct_thingAt G _ _ _ _) ?_
    refine Rn.dup2 dX10_cut_73 rfl rfl ?_
    refine Rn.ialdN dX10_cut_74 (by first | rfl | exact gC1 (by assumption) | exact gC2 (by assumption) | exact gC3 (by assumption) | exact gL1 (by assumption) | exact gL2 (by assumption) | exact gL3 (by assumption) | exact gL4 (by assumption) | exact gL5 (by assumption) | exact gL6 (by assumption)) ?_
    refine Rn.iconst (v := (nI 2)) dX10_cut_75 rfl ?_
    refine Rn.idiv dX10_cut_76 (by decide) ?_
    refine Rn.iastN dX10_cut_77 (by first | rfl | exact gC1 (by assumption) | exact gC2 (by assumption) | exact gC3 (by assumption) | exact gL1 (by assumption) | exact gL2 (by assumption) | exact gL3 (by assumption) | exact gL4 (by assumption) | exact gL5 (by assumption) | exact gL6 (by assumption)) ?_
    refine Rn.iincN dX10_cut_78 rfl (by decide) ?_
    refine Rn.goto 59 dX10_cut_81 (by decide) ?_
    exact Rn.hpp _ (zup_zset _ _ _ _ _) (ih (s + 1) (by omega))
theorem ct_cut0 (T t r : Nat) (hT8 : T ≤ 8) (hT : I 95 1 = nI T) (ht : t < T) (hr : r ≤ 12) (h7 : I 94 7 = nI r) (h : I 95 (65 + 9 * t + 7) = nI 1) :
    Ct G GAM mX10_cut (d + 3) 0 [.ref 94, .int (nI t)] I (Rp (some (.int (lkT (cutW (I 95) t) t))) (zset (ahd I r) 95 (cutW (I 95) t))) := by
  refine Ct.mk [some (.ref 94), some (.int (nI t)), none] ?_
  refine Rn.aload_n dX10_cut_0 rfl rfl ?_
  refine Rn.iconst (v := (nI 0)) dX10_cut_1 rfl ?_
  refine Rn.putI dX10_cut_2 fp_X10_3_9 (by first | rfl | exact gC0 (by assumption) | exact gL0 (by assumption)) rfl ?_
  refine Rn.aload_n dX10_cut_5 rfl rfl ?_
  refine Rn.aload_n dX10_cut_6 rfl rfl ?_
  refine Rn.iload_n dX10_cut_7 rfl rfl ?_
  refine Rn.callVp (As := [_]) dX10_cut_8 mv_X10_284 (by first | rfl | exact gC0 (by assumption) | exact gL0 (by assumption)) rfl rfl rfl (Nat.le_of_ble_eq_true rfl) (ct_noThingT G _ _ _ T hT) ?_
  refine Rn.iconst (v := (nI 1)) dX10_cut_11 rfl ?_
  refine Rn.callVp (As := [_, _]) dX10_cut_12 mv_X10_241 (by first | rfl | exact gC0 (by assumption) | exact gL0 (by assumption)) rfl rfl rfl (Nat.le_of_ble_eq_true rfl) (ct_throwsF G _ _ _ (fun q => q (vx_nI ht hT8)) _) ?_
  refine Rn.if_neB dX10_cut_15 39 (fun h9 => absurd h9 (fun q => q (vx_nI ht hT8))) (fun _ => ?_)
  refine Rn.aload_n dX10_cut_18 rfl rfl ?_
  refine Rn.aload_n dX10_cut_19 rfl rfl ?_
  refine Rn.iload_n dX10_cut_20 rfl rfl ?_
  refine Rn.callVp (As := [_]) dX10_cut_21 mv_X10_302 (by first | rfl | exact gC0 (by assumption) | exact gL0 (by assumption)) rfl rfl rfl (Nat.le_of_ble_eq_true rfl) (ct_isStuck G _ _ _ (by omega)) ?_
  refine Rn.if_neB dX10_cut_24 31 (fun _ => ?_) (fun h9 => absurd (h) h9)
  refine Rn.iconst (v := (nI 0)) dX10_cut_31 rfl ?_
  refine Rn.iconst (v := (nI 2)) dX10_cut_32 rfl ?_
  refine Rn.callVp (As := [_, _]) dX10_cut_33 mv_X10_241 (by first | rfl | exact gC0 (by assumption) | exact gL0 (by assumption)) rfl rfl rfl (Nat.le_of_ble_eq_true rfl) (ct_throws0 G _ _ _) ?_
  refine Rn.if_eqN dX10_cut_36 41 (fun _ => ?_) (fun h9 => by exfalso; omega)
  refine Rn.aload_n dX10_cut_41 rfl rfl ?_
  refine Rn.callVp (As := []) dX10_cut_42 mv_X10_333 (by first | rfl | exact gC0 (by assumption) | exact gL0 (by assumption)) rfl rfl rfl (Nat.le_of_ble_eq_true rfl) (ct_remembers G _ _ r hr h7) ?_
  refine Rn.hpp (zset (ahd I r) 95 (I 95)) (zset_self (ahd I r) 95).symm ?_
  refine Rn.aload_n dX10_cut_45 rfl rfl ?_
  refine Rn.getR dX10_cut_46 fd_X10_13_9 (by first | rfl | exact gC0 (by assumption) | exact gL0 (by assumption)) rfl ?_
  refine Rn.iload_n dX10_cut_49 rfl rfl ?_
  refine Rn.bipush (v := (nI 7)) dX10_cut_50 rfl ?_
  refine Rn.callSp (As := [_, _]) dX10_cut_52 ms_X10_68 rfl rfl (Nat.le_of_ble_eq_true rfl) (ct_thingAt G _ _ _ _) ?_
  refine Rn.iconst (v := (nI 0)) dX10_cut_55 rfl ?_
  refine Rn.iastN dX10_cut_56 (by first | rfl | exact gC1 (by assumption) | exact gC2 (by assumption) | exact gC3 (by assumption) | exact gL1 (by assumption) | exact gL2 (by assumption) | exact gL3 (by assumption) | exact gL4 (by assumption) | exact gL5 (by assumption) | exact gL6 (by assumption)) ?_
  refine Rn.iconst (v := (nI 0)) dX10_cut_57 rfl ?_
  refine Rn.istore_n dX10_cut_58 rfl (by decide) ?_
  refine Rn.hpp _ (zup_zset _ _ _ _ _) (lp_cut G d (ahd I r) (upd (I 95) (65 + 9 * t + 7) (nI 0)) t (by omega) ?_ 4 0 rfl)
  refine Rn.aload_n dX10_cut_84 rfl rfl ?_
  refine Rn.iload_n dX10_cut_85 rfl rfl ?_
  refine Rn.callVp (As := [_]) dX10_cut_86 mv_X10_272 (by first | rfl | exact gC0 (by assumption) | exact gL0 (by assumption)) rfl rfl rfl (Nat.le_of_ble_eq_true rfl) (ct_luckIn G _ _ _ (by omega)) ?_
  exact Rn.iret dX10_cut_89 rfl (⟨rfl, rfl⟩)
theorem ct_widow1 (N : Nat) (w b : Int32) (hN : I 95 0 = nI N) (h : ¬ vx w N) : Ct G GAM mX10_widow (d + 2) 0 [.ref 94, .int w, .int b] I (Rp (some (.int (nI 0))) (zup (zup I 94 0 (nI 0)) 94 0 (nI 1))) := by
  refine Ct.mk [some (.ref 94), some (.int w), some (.int b), none] ?_
  refine Rn.aload_n dX10_widow_0 rfl rfl ?_
  refine Rn.iconst (v := (nI 0)) dX10_widow_1 rfl ?_
  refine Rn.putI dX10_widow_2 fp_X10_3_9 (by first | rfl | exact gC0 (by assumption) | exact gL0 (by assumption)) rfl ?_
  refine Rn.aload_n dX10_widow_5 rfl rfl ?_
  refine Rn.aload_n dX10_widow_6 rfl rfl ?_
  refine Rn.iload_n dX10_widow_7 rfl rfl ?_
  refine Rn.callVp (As := [_]) dX10_widow_8 mv_X10_275 (by first | rfl | exact gC0 (by assumption) | exact gL0 (by assumption)) rfl rfl rfl (Nat.le_of_ble_eq_true rfl) (ct_noWomanN G _ _ _ N hN) ?_
  refine Rn.iconst (v := (nI 1)) dX10_widow_11 rfl ?_
  refine Rn.callVp (As := [_, _]) dX10_widow_12 mv_X10_241 (by first | rfl | exact gC0 (by assumption) | exact gL0 (by assumption)) rfl rfl rfl (Nat.le_of_ble_eq_true rfl) (ct_throwsT G _ _ _ h _) ?_
  refine Rn.if_eqB dX10_widow_15 20 (fun h9 => absurd (h) h9) (fun _ => ?_)
  refine Rn.iconst (v := (nI 0)) dX10_widow_18 rfl ?_
  exact Rn.zret dX10_widow_19 rfl rfl (⟨rfl, rfl⟩)
theorem ct_widow0 (N w r : Nat) (p : Prop) [Decidable p] (hN8 : N ≤ 8) (hN : I 95 0 = nI N) (hw : w < N) (hr : r ≤ 12) (h7 : I 94 7 = nI r) :
    Ct G GAM mX10_widow (d + 3) 0 [.ref 94, .int (nI w), .int (bI p)] I (Rp (some (.int (bI (¬ bI (I 95 (9 + 7 * w + 6) = nI 1) = bI p)))) (zup (ahd I r) 95 (9 + 7 * w + 6) (bI p))) := by
  refine Ct.mk [some (.ref 94), some (.int (nI w)), some (.int (bI p)), none] ?_
  refine Rn.aload_n dX10_widow_0 rfl rfl ?_
  refine Rn.iconst (v := (nI 0)) dX10_widow_1 rfl ?_
  refine Rn.putI dX10_widow_2 fp_X10_3_9 (by first | rfl | exact gC0 (by assumption) | exact gL0 (by assumption)) rfl ?_
  refine Rn.aload_n dX10_widow_5 rfl rfl ?_
  refine Rn.aload_n dX10_widow_6 rfl rfl ?_
  refine Rn.iload_n dX10_widow_7 rfl rfl ?_
  refine Rn.callVp (As := [_]) dX10_widow_8 mv_X10_275 (by first | rfl | exact gC0 (by assumption) | exact gL0 (by assumption)) rfl rfl rfl (Nat.le_of_ble_eq_true rfl) (ct_noWomanN G _ _ _ N hN) ?_
  refine Rn.iconst (v := (nI 1)) dX10_widow_11 rfl ?_
  refine Rn.callVp (As := [_, _]) dX10_widow_12 mv_X10_241 (by first | rfl | exact gC0 (by assumption) | exact gL0 (by assumption)) rfl rfl rfl (Nat.le_of_ble_eq_true rfl) (ct_throwsF G _ _ _ (fun q => q (vx_nI hw hN8)) _) ?_
  refine Rn.if_eqB dX10_widow_15 20 (fun _ => ?_) (fun h9 => absurd h9 (fun q => q (vx_nI hw hN8)))
  refine Rn.aload_n dX10_widow_20 rfl rfl ?_
  refine Rn.callVp (As := []) dX10_widow_21 mv_X10_333 (by first | rfl | exact gC0 (by assumption) | exact gL0 (by assumption)) rfl rfl rfl (Nat.le_of_ble_eq_true rfl) (ct_remembers G _ _ r hr h7) ?_
  refine Rn.aload_n dX10_widow_24 rfl rfl ?_
  refine Rn.iload_n dX10_widow_25 rfl rfl ?_
  refine Rn.callVp (As := [_]) dX10_widow_26 mv_X10_311 (by first | rfl | exact gC0 (by assumption) | exact gL0 (by assumption)) rfl rfl rfl (Nat.le_of_ble_eq_true rfl) (ct_isWidow G _ _ _ (by omega)) ?_
  refine Rn.istore_n dX10_widow_29 rfl (by decide) ?_
  refine Rn.aload_n dX10_widow_30 rfl rfl ?_
  refine Rn.getR dX10_widow_31 fd_X10_13_9 (by first | rfl | exact gC0 (by assumption) | exact gL0 (by assumption)) rfl ?_
  refine Rn.iload_n dX10_widow_34 rfl rfl ?_
  refine Rn.bipush (v := (nI 6)) dX10_widow_35 rfl ?_
  refine Rn.callSp (As := [_, _]) dX10_widow_37 ms_X10_61 rfl rfl (Nat.le_of_ble_eq_true rfl) (ct_womanAt G _ _ _ _) ?_
  refine Rn.iload_n dX10_widow_40 rfl rfl ?_
  refine Rn.if_eqB dX10_widow_41 48 (fun h1 => ?_) (fun h1 => ?_)
  · refine Rn.iconst (v := (nI 0)) dX10_widow_48 rfl ?_
    refine Rn.iastN dX10_widow_49 (by first | rfl | exact gC1 (by assumption) | exact gC2 (by assumption) | exact gC3 (by assumption) | exact gL1 (by assumption) | exact gL2 (by assumption) | exact gL3 (by assumption) | exact gL4 (by assumption) | exact gL5 (by assumption) | exact gL6 (by assumption)) ?_
    refine Rn.iload_n dX10_widow_50 rfl rfl ?_
    refine Rn.iload_n dX10_widow_51 rfl rfl ?_
    refine Rn.icmp_eq (tgt := 59) dX10_widow_52 (by decide) (fun h2 => ?_) (fun h2 => ?_)
    · refine Rn.iconst (v := (nI 0)) dX10_widow_59 rfl ?_
      exact Rn.zret dX10_widow_60 rfl rfl (⟨by rw [bI_f (fun q => q h2)]; rfl, by rw [bI_f h1]; rfl⟩)
    · refine Rn.iconst (v := (nI 1)) dX10_widow_55 rfl ?_
      refine Rn.goto 60 dX10_widow_56 (by decide) ?_
      exact Rn.zret dX10_widow_60 rfl rfl (⟨by rw [bI_t (show ¬ bI (I 95 (9 + 7 * w + 6) = nI 1) = bI p from h2)]; rfl, by rw [bI_f h1]; rfl⟩)
  · refine Rn.iconst (v := (nI 1)) dX10_widow_44 rfl ?_
    refine Rn.goto 49 dX10_widow_45 (by decide) ?_
    refine Rn.iastN dX10_widow_49 (by first | rfl | exact gC1 (by assumption) | exact gC2 (by assumption) | exact gC3 (by assumption) | exact gL1 (by assumption) | exact gL2 (by assumption) | exact gL3 (by assumption) | exact gL4 (by assumption) | exact gL5 (by assumption) | exact gL6 (by assumption)) ?_
    refine Rn.iload_n dX10_widow_50 rfl rfl ?_
    refine Rn.iload_n dX10_widow_51 rfl rfl ?_
    refine Rn.icmp_eq (tgt := 59) dX10_widow_52 (by decide) (fun h2 => ?_) (fun h2 => ?_)
    · refine Rn.iconst (v := (nI 0)) dX10_widow_59 rfl ?_
      exact Rn.zret dX10_widow_60 rfl rfl (⟨by rw [bI_f (fun q => q h2)]; rfl, by rw [bI_t h1]; rfl⟩)
    · refine Rn.iconst (v := (nI 1)) dX10_widow_55 rfl ?_
      refine Rn.goto 60 dX10_widow_56 (by decide) ?_
      exact Rn.zret dX10_widow_60 rfl rfl (⟨by rw [bI_t (show ¬ bI (I 95 (9 + 7 * w + 6) = nI 1) = bI p from h2)]; rfl, by rw [bI_t h1]; rfl⟩)
theorem ct_days1 (n : Int32) (h : ¬ (nI 1 ≤ n ∧ n ≤ nI 60)) : Ct G GAM mX10_days (d + 1) 0 [.ref 94, .int n] I (Rp (some (.int (nI 0))) (zup (zup I 94 0 (nI 0)) 94 0 (nI 1))) := by
  refine Ct.mk [some (.ref 94), some (.int n)] ?_
  refine Rn.aload_n dX10_days_0 rfl rfl ?_
  refine Rn.iconst (v := (nI 0)) dX10_days_1 rfl ?_
  refine Rn.putI dX10_days_2 fp_X10_3_9 (by first | rfl | exact gC0 (by assumption) | exact gL0 (by assumption)) rfl ?_
  refine Rn.aload_n dX10_days_5 rfl rfl ?_
  refine Rn.iload_n dX10_days_6 rfl rfl ?_
  refine Rn.iconst (v := (nI 1)) dX10_days_7 rfl ?_
  refine Rn.bipush (v := (nI 60)) dX10_days_8 rfl ?_
  refine Rn.callSp (As := [_, _, _]) dX10_days_10 ms_X10_78 rfl rfl (Nat.le_of_ble_eq_true rfl) (ct_in G _ _ _ _ _) ?_
  refine Rn.if_neB dX10_days_13 20 (fun h9 => absurd h9 (h)) (fun _ => ?_)
  refine Rn.iconst (v := (nI 1)) dX10_days_16 rfl ?_
  refine Rn.goto 21 dX10_days_17 (by decide) ?_
  refine Rn.iconst (v := (nI 1)) dX10_days_21 rfl ?_
  refine Rn.callVp (As := [_, _]) dX10_days_22 mv_X10_241 (by first | rfl | exact gC0 (by assumption) | exact gL0 (by assumption)) rfl rfl rfl (Nat.le_of_ble_eq_true rfl) (ct_throws1 G _ _ _) ?_
  refine Rn.if_eqN dX10_days_25 30 (fun h9 => by exfalso; omega) (fun _ => ?_)
  refine Rn.iconst (v := (nI 0)) dX10_days_28 rfl ?_
  exact Rn.iret dX10_days_29 rfl (⟨rfl, rfl⟩)
theorem ct_days0 (N T n r : Nat) (h1 : 1 ≤ n) (h60 : n ≤ 60) (hWI : WI (I 95) N T) (hR : LawR (I 95) op bg en L) (hr : r ≤ 12) (h7 : I 94 7 = nI r) :
    Ct G GAM mX10_days (d + 10) 0 [.ref 94, .int (nI n)] I (Rw (some (.int (daysR (I 95) op bg en L N T n))) (ahd I r) (daysW (I 95) op bg en L N T n)) := by
  refine Ct.mk [some (.ref 94), some (.int (nI n))] ?_
  refine Rn.aload_n dX10_days_0 rfl rfl ?_
  refine Rn.iconst (v := (nI 0)) dX10_days_1 rfl ?_
  refine Rn.putI dX10_days_2 fp_X10_3_9 (by first | rfl | exact gC0 (by assumption) | exact gL0 (by assumption)) rfl ?_
  refine Rn.aload_n dX10_days_5 rfl rfl ?_
  refine Rn.iload_n dX10_days_6 rfl rfl ?_
  refine Rn.iconst (v := (nI 1)) dX10_days_7 rfl ?_
  refine Rn.bipush (v := (nI 60)) dX10_days_8 rfl ?_
  refine Rn.callSp (As := [_, _, _]) dX10_days_10 ms_X10_78 rfl rfl (Nat.le_of_ble_eq_true rfl) (ct_in G _ _ _ _ _) ?_
  refine Rn.if_neB dX10_days_13 20 (fun _ => ?_) (fun h9 => absurd (⟨nI_le (by omega) (by omega), nI_le (by omega) (by omega)⟩) h9)
  refine Rn.iconst (v := (nI 0)) dX10_days_20 rfl ?_
  refine Rn.iconst (v := (nI 1)) dX10_days_21 rfl ?_
  refine Rn.callVp (As := [_, _]) dX10_days_22 mv_X10_241 (by first | rfl | exact gC0 (by assumption) | exact gL0 (by assumption)) rfl rfl rfl (Nat.le_of_ble_eq_true rfl) (ct_throws0 G _ _ _) ?_
  refine Rn.if_eqN dX10_days_25 30 (fun _ => ?_) (fun h9 => by exfalso; omega)
  refine Rn.aload_n dX10_days_30 rfl rfl ?_
  refine Rn.callVp (As := []) dX10_days_31 mv_X10_333 (by first | rfl | exact gC0 (by assumption) | exact gL0 (by assumption)) rfl rfl rfl (Nat.le_of_ble_eq_true rfl) (ct_remembers G _ _ r hr h7) ?_
  refine Rn.hpp (zW (ahd I r) (I 102) (I 103) (I 95)) (zW_self (ahd I r)).symm ?_
  refine Rn.aload_n dX10_days_34 rfl rfl ?_
  refine Rn.iload_n dX10_days_35 rfl rfl ?_
  refine Rn.callVw (As := [_]) dX10_days_36 mv_X10_336 (by first | rfl | exact gC0 (by assumption) | exact gL0 (by assumption)) rfl rfl rfl (Nat.le_of_ble_eq_true rfl) (ct_goesOn G _ _ op bg en L N T _ (by omega) hWI hR) (fun g h9 => ?_)
  exact Rn.iret dX10_days_39 rfl (⟨rfl, g, h9, rfl⟩)
end RefJ
