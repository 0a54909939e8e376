theorem dX0_thingsWith_5 : decode cX0_thingsWith 5 = .ok (.iload 4, 2) := by decide +kernel
theorem dX0_thingsWith_7 : decode cX0_thingsWith 7 = .ok (.aload_n 0, 1) := by decide +kernel
theorem dX0_thingsWith_8 : decode cX0_thingsWith 8 = .ok (.getfield 34, 3) := by decide +kernel
theorem dX0_thingsWith_11 : decode cX0_thingsWith 11 = .ok (.if_icmp .ge 31, 3) := by decide +kernel
theorem dX0_thingsWith_42 : decode cX0_thingsWith 42 = .ok (.iload_n 3, 1) := by decide +kernel
theorem dX0_thingsWith_43 : decode cX0_thingsWith 43 = .ok (.ireturn, 1) := by decide +kernel
theorem dX0_thingsWith_14 : decode cX0_thingsWith 14 = .ok (.iload_n 3, 1) := by decide +kernel
theorem dX0_thingsWith_15 : decode cX0_thingsWith 15 = .ok (.aload_n 0, 1) := by decide +kernel
theorem dX0_thingsWith_16 : decode cX0_thingsWith 16 = .ok (.iload 4, 2) := by decide +kernel
theorem dX0_thingsWith_18 : decode cX0_thingsWith 18 = .ok (.iload_n 1, 1) := by decide +kernel
theorem dX0_thingsWith_19 : decode cX0_thingsWith 19 = .ok (.invokevirtual 59, 3) := by decide +kernel
theorem dX0_thingsWith_22 : decode cX0_thingsWith 22 = .ok (.iload_n 2, 1) := by decide +kernel
theorem dX0_thingsWith_23 : decode cX0_thingsWith 23 = .ok (.if_icmp .ne 10, 3) := by decide +kernel
theorem dX0_thingsWith_33 : decode cX0_thingsWith 33 = .ok (.iconst 0, 1) := by decide +kernel
theorem dX0_thingsWith_34 : decode cX0_thingsWith 34 = .ok (.ior, 1) := by decide +kernel
theorem dX0_thingsWith_35 : decode cX0_thingsWith 35 = .ok (.istore_n 3, 1) := by decide +kernel
theorem dX0_thingsWith_36 : decode cX0_thingsWith 36 = .ok (.iinc 4 1, 3) := by decide +kernel
theorem dX0_thingsWith_39 : decode cX0_thingsWith 39 = .ok (.goto (-34), 3) := by decide +kernel
theorem dX0_thingsWith_26 : decode cX0_thingsWith 26 = .ok (.iconst 1, 1) := by decide +kernel
theorem dX0_thingsWith_27 : decode cX0_thingsWith 27 = .ok (.iload 4, 2) := by decide +kernel
theorem dX0_thingsWith_29 : decode cX0_thingsWith 29 = .ok (.ishl, 1) := by decide +kernel
theorem dX0_thingsWith_30 : decode cX0_thingsWith 30 = .ok (.goto 4, 3) := by decide +kernel
theorem dX0_thingsWith_0 : decode cX0_thingsWith 0 = .ok (.iconst 0, 1) := by decide +kernel
theorem dX0_thingsWith_1 : decode cX0_thingsWith 1 = .ok (.istore_n 3, 1) := by decide +kernel
theorem dX0_thingsWith_2 : decode cX0_thingsWith 2 = .ok (.iconst 0, 1) := by decide +kernel
theorem dX0_thingsWith_3 : decode cX0_thingsWith 3 = .ok (.istore 4, 2) := by decide +kernel
theorem dX10_thingsBy_5 : decode cX10_thingsBy 5 = .ok (.iload 4, 2) := by decide +kernel
theorem dX10_thingsBy_7 : decode cX10_thingsBy 7 = .ok (.aload_n 0, 1) := by decide +kernel
theorem dX10_thingsBy_8 : decode cX10_thingsBy 8 = .ok (.invokevirtual 82, 3) := by decide +kernel
theorem dX10_thingsBy_11 : decode cX10_thingsBy 11 = .ok (.if_icmp .ge 31, 3) := by decide +kernel
theorem dX10_thingsBy_42 : decode cX10_thingsBy 42 = .ok (.iload_n 3, 1) := by decide +kernel
theorem dX10_thingsBy_43 : decode cX10_thingsBy 43 = .ok (.ireturn, 1) := by decide +kernel
theorem dX10_thingsBy_14 : decode cX10_thingsBy 14 = .ok (.iload_n 3, 1) := by decide +kernel
theorem dX10_thingsBy_15 : decode cX10_thingsBy 15 = .ok (.aload_n 0, 1) := by decide +kernel
theorem dX10_thingsBy_16 : decode cX10_thingsBy 16 = .ok (.iload 4, 2) := by decide +kernel
theorem dX10_thingsBy_18 : decode cX10_thingsBy 18 = .ok (.iload_n 1, 1) := by decide +kernel
theorem dX10_thingsBy_19 : decode cX10_thingsBy 19 = .ok (.invokevirtual 71, 3) := by decide +kernel
theorem dX10_thingsBy_22 : decode cX10_thingsBy 22 = .ok (.iload_n 2, 1) := by decide +kernel
theorem dX10_thingsBy_23 : decode cX10_thingsBy 23 = .ok (.if_icmp .ne 10, 3) := by decide +kernel
theorem dX10_thingsBy_33 : decode cX10_thingsBy 33 = .ok (.iconst 0, 1) := by decide +kernel
theorem dX10_thingsBy_34 : decode cX10_thingsBy 34 = .ok (.ior, 1) := by decide +kernel
theorem dX10_thingsBy_35 : decode cX10_thingsBy 35 = .ok (.istore_n 3, 1) := by decide +kernel
theorem dX10_thingsBy_36 : decode cX10_thingsBy 36 = .ok (.iinc 4 1, 3) := by decide +kernel
theorem dX10_thingsBy_39 : decode cX10_thingsBy 39 = .ok (.goto (-34), 3) := by decide +kernel
theorem dX10_thingsBy_26 : decode cX10_thingsBy 26 = .ok (.iconst 1, 1) := by decide +kernel
theorem dX10_thingsBy_27 : decode cX10_thingsBy 27 = .ok (.iload 4, 2) := by decide +kernel
theorem dX10_thingsBy_29 : decode cX10_thingsBy 29 = .ok (.ishl, 1) := by decide +kernel
theorem dX10_thingsBy_30 : decode cX10_thingsBy 30 = .ok (.goto 4, 3) := by decide +kernel
theorem dX10_thingsBy_0 : decode cX10_thingsBy 0 = .ok (.iconst 0, 1) := by decide +kernel
theorem dX10_thingsBy_1 : decode cX10_thingsBy 1 = .ok (.istore_n 3, 1) := by decide +kernel
theorem dX10_thingsBy_2 : decode cX10_thingsBy 2 = .ok (.iconst 0, 1) := by decide +kernel
theorem dX10_thingsBy_3 : decode cX10_thingsBy 3 = .ok (.istore 4, 2) := by decide +kernel
theorem dX9_blue_0 : decode cX9_blue 0 = .ok (.aload_n 0, 1) := by decide +kernel
theorem dX9_blue_1 : decode cX9_blue 1 = .ok (.getfield 19, 3) := by decide +kernel
theorem dX9_blue_4 : decode cX9_blue 4 = .ok (.bipush 8, 2) := by decide +kernel
theorem dX9_blue_6 : decode cX9_blue 6 = .ok (.iconst 1, 1) := by decide +kernel
theorem dX9_blue_7 : decode cX9_blue 7 = .ok (.invokevirtual 144, 3) := by decide +kernel
theorem dX9_blue_10 : decode cX9_blue 10 = .ok (.ireturn, 1) := by decide +kernel
theorem dX10_blue_0 : decode cX10_blue 0 = .ok (.aload_n 0, 1) := by decide +kernel
theorem dX10_blue_1 : decode cX10_blue 1 = .ok (.iconst 0, 1) := by decide +kernel
theorem dX10_blue_2 : decode cX10_blue 2 = .ok (.putfield 3, 3) := by decide +kernel
theorem dX10_blue_5 : decode cX10_blue 5 = .ok (.aload_n 0, 1) := by decide +kernel
theorem dX10_blue_6 : decode cX10_blue 6 = .ok (.bipush 8, 2) := by decide +kernel
theorem dX10_blue_8 : decode cX10_blue 8 = .ok (.iconst 1, 1) := by decide +kernel
theorem dX10_blue_9 : decode cX10_blue 9 = .ok (.invokevirtual 278, 3) := by decide +kernel
theorem dX10_blue_12 : decode cX10_blue 12 = .ok (.ireturn, 1) := by decide +kernel
/-! which things are blue, on both sides -/
def blA (b : Nat → Int32) : Nat → Int32
  | 0 => nI 0
  | k + 1 => blA b k ||| (if b k = nI 1 then nI 1 <<< (nI k &&& 31) else nI 0)
theorem blA_eq {a b : Nat → Int32} : ∀ n, (∀ k, k < n → a k = b k) → blA a n = blA b n := by
  intro n
  induction n with
  | zero => intro _; rfl
  | succ n ih =>
    intro h
    show blA a n ||| _ = blA b n ||| _
    rw [ih (fun k hk => h k (by omega)), h n (by omega)]
section Blu
variable (G : Gx) (d : Nat) (I : Hi)
theorem ct_its8 (w : Nat) (hw : w < 8) : Ct G GAM mX0_its d 0 [.ref 3, .int (nI w), .int (nI 8)] I (Rp (some (.int (I 5 (9 * w + 8)))) I) := by
  refine Ct.mk [some (.ref 3), some (.int (nI w)), some (.int (nI 8)), none] ?_
  refine Rn.iload_n dX0_its_0 rfl rfl ?_
  refine Rn.if_ltN dX0_its_1 ?_ 24
  refine Rn.iload_n dX0_its_4 rfl rfl ?_
  refine Rn.bipush (v := (nI 8)) dX0_its_5 rfl ?_
  refine Rn.icmp_geN dX0_its_7 24 (fun h9 => by exfalso; omega) (fun _ => ?_)
  refine Rn.iload_n dX0_its_10 rfl rfl ?_
  refine Rn.if_ltN dX0_its_11 ?_ 24
  refine Rn.iload_n dX0_its_14 rfl rfl ?_
  refine Rn.bipush (v := (nI 9)) dX0_its_15 rfl ?_
  refine Rn.icmp_geN dX0_its_17 24 (fun h9 => by exfalso; omega) (fun _ => ?_)
  refine Rn.iconst (v := (nI 1)) dX0_its_20 rfl ?_
  refine Rn.goto 25 dX0_its_21 (by decide) ?_
  refine Rn.istore_n dX0_its_25 rfl (by decide) ?_
  refine Rn.iload_n dX0_its_26 rfl rfl ?_
  refine Rn.if_eq (tgt := 44) dX0_its_27 (by decide) (fun h9 => absurd h9 (by decide)) (fun _ => ?_)
  refine Rn.aload_n dX0_its_30 rfl rfl ?_
  refine Rn.getR dX0_its_31 fd_X0_25_0 (by first | rfl | exact gC0 (by assumption) | exact gL0 (by assumption)) rfl ?_
  refine Rn.iload_n dX0_its_34 rfl rfl ?_
  refine Rn.bipush (v := (nI 9)) dX0_its_35 rfl ?_
  refine Rn.imul dX0_its_37 ?_
  refine Rn.iload_n dX0_its_38 rfl rfl ?_
  refine Rn.iadd dX0_its_39 ?_
  refine Rn.topI (nI (9 * w + 8)) (by rw [pk_mul, nI_add, Nat.mul_comm]) ?_
  refine Rn.ialdN dX0_its_40 (by first | rfl | exact gC1 (by assumption) | exact gC2 (by assumption) | exact gC3 (by assumption) | exact gL1 (by assumption) | exact gL2 (by assumption) | exact gL3 (by assumption) | exact gL4 (by assumption) | exact gL5 (by assumption) | exact gL6 (by assumption)) ?_
  refine Rn.goto 45 dX0_its_41 (by decide) ?_
  exact Rn.iret dX0_its_45 rfl (⟨rfl, rfl⟩)
theorem lp_twX (T : Nat) (hT : T ≤ 8) (h1 : I 3 1 = nI T) : ∀ m t, t + m = T → Rn G GAM mX0_thingsWith (kM G GAM (Rp (some (.int (blA (fun k => I 5 (9 * k + 8)) T))) I)) (d + 1) 0 5 [some (.ref 3), some (.int (nI 8)), some (.int (nI 1)), some (.int (blA (fun k => I 5 (9 * k + 8)) t)), some (.int (nI t))] [] I := by
  intro m
  induction m with
  | zero =>
    intro t ht
    obtain rfl : t = T := by omega
    refine Rn.iload dX0_thingsWith_5 rfl ?_
    refine Rn.aload_n dX0_thingsWith_7 rfl rfl ?_
    refine Rn.getI dX0_thingsWith_8 fd_X0_34_0 (by first | rfl | exact gC0 (by assumption) | exact gL0 (by assumption)) rfl ?_
    refine Rn.topI (nI t) (by exact h1) ?_
    refine Rn.icmp_geN dX0_thingsWith_11 42 (fun _ => ?_) (fun h9 => by exfalso; omega)
    refine Rn.iload_n dX0_thingsWith_42 rfl rfl ?_
    exact Rn.iret dX0_thingsWith_43 rfl (⟨rfl, rfl⟩)
  | succ m ih =>
    intro t ht
    refine Rn.iload dX0_thingsWith_5 rfl ?_
    refine Rn.aload_n dX0_thingsWith_7 rfl rfl ?_
    refine Rn.getI dX0_thingsWith_8 fd_X0_34_0 (by first | rfl | exact gC0 (by assumption) | exact gL0 (by assumption)) rfl ?_
    refine Rn.topI (nI T) (by exact h1) ?_
    refine Rn.icmp_geN dX0_thingsWith_11 42 (fun h9 => by exfalso; omega) (fun _ => ?_)
    refine Rn.iload_n dX0_thingsWith_14 rfl rfl ?_
    refine Rn.aload_n dX0_thingsWith_15 rfl rfl ?_
    refine Rn.iload dX0_thingsWith_16 rfl ?_
    refine Rn.iload_n dX0_thingsWith_18 rfl rfl ?_
    refine Rn.callVp (As := [_, _]) dX0_thingsWith_19 mv_X0_59 (by first | rfl | exact gC0 (by assumption) | exact gL0 (by assumption)) rfl rfl rfl (Nat.le_of_ble_eq_true rfl) (ct_its8 G d _ t (by omega)) ?_
    refine Rn.iload_n dX0_thingsWith_22 rfl rfl ?_
    refine Rn.icmp_ne (tgt := 33) dX0_thingsWith_23 (by decide) (fun h3 => ?_) (fun h3 => ?_)
    · refine Rn.iconst (v := (nI 0)) dX0_thingsWith_33 rfl ?_
      refine Rn.ior dX0_thingsWith_34 ?_
      refine Rn.topI (blA (fun k => I 5 (9 * k + 8)) (t + 1)) (by rw [blA, if_neg h3]) ?_
      refine Rn.istore_n dX0_thingsWith_35 rfl (by decide) ?_
      refine Rn.iincN dX0_thingsWith_36 rfl (by decide) ?_
      refine Rn.goto 5 dX0_thingsWith_39 (by decide) ?_
      exact ih (t + 1) (by omega)
    · refine Rn.iconst (v := (nI 1)) dX0_thingsWith_26 rfl ?_
      refine Rn.iload dX0_thingsWith_27 rfl ?_
      refine Rn.ishl dX0_thingsWith_29 ?_
      refine Rn.goto 34 dX0_thingsWith_30 (by decide) ?_
      refine Rn.ior dX0_thingsWith_34 ?_
      refine Rn.topI (blA (fun k => I 5 (9 * k + 8)) (t + 1)) (by rw [blA, if_pos h3]) ?_
      refine Rn.istore_n dX0_thingsWith_35 rfl (by decide) ?_
      refine Rn.iincN dX0_thingsWith_36 rfl (by decide) ?_
      refine Rn.goto 5 dX0_thingsWith_39 (by decide) ?_
      exact ih (t + 1) (by omega)
theorem ct_twX (T : Nat) (hT : T ≤ 8) (h1 : I 3 1 = nI T) : Ct G GAM mX0_thingsWith (d + 1) 0 [.ref 3, .int (nI 8), .int (nI 1)] I (Rp (some (.int (blA (fun k => I 5 (9 * k + 8)) T))) I) := by
  refine Ct.mk [some (.ref 3), some (.int (nI 8)), some (.int (nI 1)), none, none] ?_
  refine Rn.iconst (v := (nI 0)) dX0_thingsWith_0 rfl ?_
  refine Rn.istore_n dX0_thingsWith_1 rfl (by decide) ?_
  refine Rn.iconst (v := (nI 0)) dX0_thingsWith_2 rfl ?_
  refine Rn.istore dX0_thingsWith_3 (by decide) ?_
  exact lp_twX G d I T hT h1 T 0 (by omega)
theorem lp_twM (T : Nat) (hT : T ≤ 8) (h1 : I 95 1 = nI T) : ∀ m t, t + m = T → Rn G GAM mX10_thingsBy (kM G GAM (Rp (some (.int (blA (fun k => I 95 (73 + 9 * k)) T))) I)) (d + 2) 0 5 [some (.ref 94), some (.int (nI 8)), some (.int (nI 1)), some (.int (blA (fun k => I 95 (73 + 9 * k)) t)), some (.int (nI t))] [] I := by
  intro m
  induction m with
  | zero =>
    intro t ht
    obtain rfl : t = T := by omega
    refine Rn.iload dX10_thingsBy_5 rfl ?_
    refine Rn.aload_n dX10_thingsBy_7 rfl rfl ?_
    refine Rn.callVp (As := []) dX10_thingsBy_8 mv_X10_82 (by first | rfl | exact gC0 (by assumption) | exact gL0 (by assumption)) rfl rfl rfl (Nat.le_of_ble_eq_true rfl) (ct_things G _ _) ?_
    refine Rn.topI (nI t) (by exact h1) ?_
    refine Rn.icmp_geN dX10_thingsBy_11 42 (fun _ => ?_) (fun h9 => by exfalso; omega)
    refine Rn.iload_n dX10_thingsBy_42 rfl rfl ?_
    exact Rn.iret dX10_thingsBy_43 rfl (⟨rfl, rfl⟩)
  | succ m ih =>
    intro t ht
    have e9 : 65 + 9 * t + 8 = 73 + 9 * t := by omega
    refine Rn.iload dX10_thingsBy_5 rfl ?_
    refine Rn.aload_n dX10_thingsBy_7 rfl rfl ?_
    refine Rn.callVp (As := []) dX10_thingsBy_8 mv_X10_82 (by first | rfl | exact gC0 (by assumption) | exact gL0 (by assumption)) rfl rfl rfl (Nat.le_of_ble_eq_true rfl) (ct_things G _ _) ?_
    refine Rn.topI (nI T) (by exact h1) ?_
    refine Rn.icmp_geN dX10_thingsBy_11 42 (fun h9 => by exfalso; omega) (fun _ => ?_)
    refine Rn.iload_n dX10_thingsBy_14 rfl rfl ?_
    refine Rn.aload_n dX10_thingsBy_15 rfl rfl ?_
    refine Rn.iload dX10_thingsBy_16 rfl ?_
    refine Rn.iload_n dX10_thingsBy_18 rfl rfl ?_
    refine Rn.callVp (As := [_, _]) dX10_thingsBy_19 mv_X10_71 (by first | rfl | exact gC0 (by assumption) | exact gL0 (by assumption)) rfl rfl rfl (Nat.le_of_ble_eq_true rfl) (ct_ofThing G _ _ t 8 (by omega)) ?_
    refine Rn.topI (I 95 (73 + 9 * t)) (by rw [e9]) ?_
    refine Rn.iload_n dX10_thingsBy_22 rfl rfl ?_
    refine Rn.icmp_ne (tgt := 33) dX10_thingsBy_23 (by decide) (fun h3 => ?_) (fun h3 => ?_)
    · refine Rn.iconst (v := (nI 0)) dX10_thingsBy_33 rfl ?_
      refine Rn.ior dX10_thingsBy_34 ?_
      refine Rn.topI (blA (fun k => I 95 (73 + 9 * k)) (t + 1)) (by rw [blA, if_neg h3]) ?_
      refine Rn.istore_n dX10_thingsBy_35 rfl (by decide) ?_
      refine Rn.iincN dX10_thingsBy_36 rfl (by decide) ?_
      refine Rn.goto 5 dX10_thingsBy_39 (by decide) ?_
      exact ih (t + 1) (by omega)
    · refine Rn.iconst (v := (nI 1)) dX10_thingsBy_26 rfl ?_
      refine Rn.iload dX10_thingsBy_27 rfl ?_
      refine Rn.ishl dX10_thingsBy_29 ?_
      refine Rn.goto 34 dX10_thingsBy_30 (by decide) ?_
      refine Rn.ior dX10_thingsBy_34 ?_
      refine Rn.topI (blA (fun k => I 95 (73 + 9 * k)) (t + 1)) (by rw [blA, if_pos h3]) ?_
      refine Rn.istore_n dX10_thingsBy_35 rfl (by decide) ?_
      refine Rn.iincN dX10_thingsBy_36 rfl (by decide) ?_
      refine Rn.goto 5 dX10_thingsBy_39 (by decide) ?_
      exact ih (t + 1) (by omega)
theorem ct_twM (T : Nat) (hT : T ≤ 8) (h1 : I 95 1 = nI T) : Ct G GAM mX10_thingsBy (d + 2) 0 [.ref 94, .int (nI 8), .int (nI 1)] I (Rp (some (.int (blA (fun k => I 95 (73 + 9 * k)) T))) I) := by
  refine Ct.mk [some (.ref 94), some (.int (nI 8)), some (.int (nI 1)), none, none] ?_
  refine Rn.iconst (v := (nI 0)) dX10_thingsBy_0 rfl ?_
  refine Rn.istore_n dX10_thingsBy_1 rfl (by decide) ?_
  refine Rn.iconst (v := (nI 0)) dX10_thingsBy_2 rfl ?_
  refine Rn.istore dX10_thingsBy_3 (by decide) ?_
  exact lp_twM G d I T hT h1 T 0 (by omega)
theorem bl_x (hI : LI I) : Ct G GAM mX9_blue (d + 2) 0 [.ref 0] I (Rv (fun v J => ∃ T, T ≤ 8 ∧ I 3 1 = nI T ∧ v = some (.int (blA (fun k => I 5 (9 * k + 8)) T)) ∧ LI J ∧ J = I)) := by
  obtain ⟨w, t, n, hw, ht, hn, q1, q2, q3, q4, q5, q6, q7⟩ := hI.2.2.2.2.2.2.2.1
  refine Ct.mk [some (.ref 0)] ?_
  refine Rn.aload_n dX9_blue_0 rfl rfl ?_
  refine Rn.getR dX9_blue_1 fd_X9_19_8 (by first | rfl | exact gC0 (by assumption) | exact gL0 (by assumption)) rfl ?_
  refine Rn.bipush (v := (nI 8)) dX9_blue_4 rfl ?_
  refine Rn.iconst (v := (nI 1)) dX9_blue_6 rfl ?_
  refine Rn.callVp (As := [_, _]) dX9_blue_7 mv_X9_144 (by first | rfl | exact gC0 (by assumption) | exact gL0 (by assumption)) rfl rfl rfl (Nat.le_of_ble_eq_true rfl) (ct_twX G d I t ht q3) ?_
  exact Rn.iret dX9_blue_10 rfl (⟨t, ht, q3, rfl, hI, rfl⟩)
theorem bl_m (hI : LI I) : Ct G GAM mX10_blue (d + 3) 0 [.ref 94] I (Rv (fun v J => ∃ T, T ≤ 8 ∧ I 3 1 = nI T ∧ v = some (.int (blA (fun k => I 5 (9 * k + 8)) T)) ∧ LI J)) := by
  obtain ⟨w, t, n, hw, ht, hn, q1, q2, q3, q4, q5, q6, q7⟩ := hI.2.2.2.2.2.2.2.1
  refine Ct.mk [some (.ref 94)] ?_
  refine Rn.aload_n dX10_blue_0 rfl rfl ?_
  refine Rn.iconst (v := (nI 0)) dX10_blue_1 rfl ?_
  refine Rn.putI dX10_blue_2 fp_X10_3_9 (by first | rfl | exact gC0 (by assumption) | exact gL0 (by assumption)) rfl ?_
  refine Rn.aload_n dX10_blue_5 rfl rfl ?_
  refine Rn.bipush (v := (nI 8)) dX10_blue_6 rfl ?_
  refine Rn.iconst (v := (nI 1)) dX10_blue_8 rfl ?_
  refine Rn.callVp (As := [_, _]) dX10_blue_9 mv_X10_278 (by first | rfl | exact gC0 (by assumption) | exact gL0 (by assumption)) rfl rfl rfl (Nat.le_of_ble_eq_true rfl) (ct_twM G d _ t ht (by rw [zup_ne _ _ (by decide)]; exact q4)) ?_
  exact Rn.iret dX10_blue_12 rfl (⟨t, ht, q3, by rw [zup_ne _ _ (by decide)]; exact congrArg (fun x => some (Value.int x)) (blA_eq t (fun k hk => (q7 k hk).symm)), hI.of (WQ.thr hI.1 hI.2.1 _)⟩)
end Blu
