/-- the state with scratch cells g, h and the world V -/
abbrev zW (I : Hi) (g h V : Nat → Int32) : Hi := zset (zset (zset I 102 g) 103 h) 95 V
theorem zW_self (I : Hi) : zW I (I 102) (I 103) (I 95) = I := by
  funext k
  simp only [zW, zset]
  by_cases h1 : k = 95
  · subst h1; simp
  · by_cases h2 : k = 103
    · subst h2; simp
    · by_cases h3 : k = 102
      · subst h3; simp
      · simp [h1, h2, h3]
theorem zW_zW (I : Hi) (g h V g' h' V' : Nat → Int32) : zW (zW I g h V) g' h' V' = zW I g' h' V' := by
  funext k
  simp only [zW, zset]
  by_cases h1 : k = 95
  · subst h1; simp
  · by_cases h2 : k = 103
    · subst h2; simp
    · by_cases h3 : k = 102
      · subst h3; simp
      · simp [h1, h2, h3]
theorem zW_up (I : Hi) (g h V : Nat → Int32) (j : Nat) (v : Int32) : zup (zW I g h V) 95 j v = zW I g h (upd V j v) := zup_zset _ _ _ _ _
theorem Rn.callVw {G : Gx} {Ga : List Shp} {Y : Ym} {kx : Kx} {d b pc pc' : Nat} {ls : List (Option Value)} {st : List Value} {I : Hi} {C : String} {T : u_T} {N ci idx a n : Nat} {fl : List (Option (Option Nat))} {As rest : List Value} {y : Ym} {v : Option Value} {g0 h0 V0 V' : Nat → Int32} (hd : decode Y.2.1 pc = .ok (.invokevirtual idx, 3)) (hM : zMv Y.1.cls idx C y n) (hG : Ga[a]? = some (.inl (ci, fl))) (hC : vwCl[ci]? = some (C, T, N))
    (hst : st = As.reverse ++ .ref a :: rest) (hn : As.length = n) (hr : (rest.map fun v => v.category).sum ≤ 8) (hct : Ct G Ga y d 0 (.ref a :: As) (zW I g0 h0 V0) (Rw v (zW I g0 h0 V0) V'))
    (k : ∀ g h, Rn G Ga Y kx (d + 1) b pc' ls (v.toList ++ rest) (zW I g h V')) (hp : pc + 3 = pc' := by rfl) : Rn G Ga Y kx (d + 1) b pc ls st (zW I g0 h0 V0) :=
  Rn.callV hd hM hG hC hst hn hr hct (fun E J h => nomatch h.1) (fun w K h => by
    obtain ⟨h1, g, hh, h2⟩ := h
    cases h1
    rw [h2]
    exact Rn.hpp _ (zW_zW _ _ _ _ _ _ _) (k g hh)) hp
def shL (W : Nat → Int32) (k : Nat) : Nat → Int32 := fun j => if 137 + k < j ∧ j ≤ 376 then W (j - 4) else W j
theorem shL_upd (W : Nat → Int32) (n : Nat) (h : n ≤ 235) : upd (shL W (n + 4)) (137 + (n + 4)) (shL W (n + 4) (137 + n)) = shL W (n + 3) := by
  funext j
  simp only [upd, shL]
  by_cases e : j = 137 + (n + 4)
  · subst e
    rw [if_pos rfl, if_neg (by omega), if_pos (by omega)]
    congr 1
  · rw [if_neg e]
    by_cases q : 137 + (n + 4) < j ∧ j ≤ 376
    · rw [if_pos q, if_pos (by omega)]
    · rw [if_neg q, if_neg (by omega)]
theorem shL_0 (W : Nat → Int32) : shL W 239 = W := by
  funext j
  simp only [shL]
  exact if_neg (by omega)
def tellW (W : Nat → Int32) (w t : Nat) (n : Int32) : Nat → Int32 :=
  upd (upd (upd (upd (upd (shL W 3) 137 (shL W 3 4)) 138 (nI w)) 139 (nI t)) 140 n) 7 (imin (nI 60) (W 7 + nI 1))
def drawN (s : Int32) : Nat := (nseed s >>> (nI 16 &&& 31)).toBitVec.toNat % 32768
theorem ndraw_N (s : Int32) : ndraw s = nI (drawN s) := pk_and _ 15 (by decide)
theorem drawN_lt (s : Int32) : drawN s < 32768 := Nat.mod_lt _ (by decide)
section RefF
variable (G : Gx) (d : Nat) (I : Hi)
theorem lp_tells {kx : Kx} {b : Nat} (W0 : Nat → Int32) (x1 x2 x3 : Option Value) (k : Rn G GAM mX10_tells kx d b 41 [some (.ref 94), x1, x2, x3, some (.int (nI 3))] [] (zset I 95 (shL W0 3))) :
    ∀ n, n ≤ 236 → Rn G GAM mX10_tells kx d b 5 [some (.ref 94), x1, x2, x3, some (.int (nI (n + 3)))] [] (zset I 95 (shL W0 (n + 3))) := by
  intro n
  induction n with
  | zero =>
    intro _
    refine Rn.iload dX10_tells_5 rfl ?_
    refine Rn.iconst (v := (nI 4)) dX10_tells_7 rfl ?_
    refine Rn.icmp_ltN dX10_tells_8 41 (fun _ => ?_) (fun h9 => by exfalso; omega)
    exact k
  | succ n ih =>
    intro hn
    refine Rn.iload dX10_tells_5 rfl ?_
    refine Rn.iconst (v := (nI 4)) dX10_tells_7 rfl ?_
    refine Rn.icmp_ltN dX10_tells_8 41 (fun h9 => by exfalso; omega) (fun _ => ?_)
    refine Rn.aload_n dX10_tells_11 rfl rfl ?_
    refine Rn.getR dX10_tells_12 fd_X10_13_9 (by first | rfl | exact gC0 (by assumption) | exact gL0 (by assumption)) rfl ?_
    refine Rn.sipush (v := (nI 137)) dX10_tells_15 rfl ?_
    refine Rn.iload dX10_tells_18 rfl ?_
    refine Rn.iadd dX10_tells_20 ?_
    refine Rn.topI (nI (137 + (n + 4))) (by simp only [nI_add]) ?_
    refine Rn.aload_n dX10_tells_21 rfl rfl ?_
    refine Rn.getR dX10_tells_22 fd_X10_13_9 (by first | rfl | exact gC0 (by assumption) | exact gL0 (by assumption)) rfl ?_
    refine Rn.sipush (v := (nI 137)) dX10_tells_25 rfl ?_
    refine Rn.iload dX10_tells_28 rfl ?_
    refine Rn.iadd dX10_tells_30 ?_
    refine Rn.topI (nI (137 + (n + 4))) (by simp only [nI_add]) ?_
    refine Rn.iconst (v := (nI 4)) dX10_tells_31 rfl ?_
    refine Rn.isub dX10_tells_32 ?_
    refine Rn.topI (nI (137 + n)) (by rw [pk_sub (by omega)]; congr 1) ?_
    refine Rn.ialdN dX10_tells_33 (by first | rfl | exact gC1 (by assumption) | exact gC2 (by assumption) | exact gC3 (by assumption) | exact gL1 (by assumption) | exact gL2 (by assumption) | exact gL3 (by assumption) | exact gL4 (by assumption) | exact gL5 (by assumption) | exact gL6 (by assumption)) ?_
    refine Rn.iastN dX10_tells_34 (by first | rfl | exact gC1 (by assumption) | exact gC2 (by assumption) | exact gC3 (by assumption) | exact gL1 (by assumption) | exact gL2 (by assumption) | exact gL3 (by assumption) | exact gL4 (by assumption) | exact gL5 (by assumption) | exact gL6 (by assumption)) ?_
    refine Rn.iinc (v := nI (n + 3)) dX10_tells_35 rfl (by exact pk_m1 _) (by decide) ?_
    refine Rn.goto 5 dX10_tells_38 (by decide) ?_
    refine Rn.hpp _ ?_ (ih (by omega))
    rw [zup_zset]
    exact congrArg _ (shL_upd W0 n (by omega))
theorem ct_tells (w t : Nat) (n : Int32) : Ct G GAM mX10_tells d 0 [.ref 94, .int (nI w), .int (nI t), .int n] I (Rp none (zset I 95 (tellW (I 95) w t n))) := by
  refine Ct.mk [some (.ref 94), some (.int (nI w)), some (.int (nI t)), some (.int n), none] ?_
  refine Rn.sipush (v := (nI 239)) dX10_tells_0 rfl ?_
  refine Rn.istore dX10_tells_3 (by decide) ?_
  refine Rn.hpp (zset I 95 (shL (I 95) 239)) (by rw [shL_0, zset_self]) (lp_tells G d I (I 95) _ _ _ ?_ 236 (by omega))
  refine Rn.aload_n dX10_tells_41 rfl rfl ?_
  refine Rn.getR dX10_tells_42 fd_X10_13_9 (by first | rfl | exact gC0 (by assumption) | exact gL0 (by assumption)) rfl ?_
  refine Rn.sipush (v := (nI 137)) dX10_tells_45 rfl ?_
  refine Rn.aload_n dX10_tells_48 rfl rfl ?_
  refine Rn.getR dX10_tells_49 fd_X10_13_9 (by first | rfl | exact gC0 (by assumption) | exact gL0 (by assumption)) rfl ?_
  refine Rn.iconst (v := (nI 4)) dX10_tells_52 rfl ?_
  refine Rn.ialdN dX10_tells_53 (by first | rfl | exact gC1 (by assumption) | exact gC2 (by assumption) | exact gC3 (by assumption) | exact gL1 (by assumption) | exact gL2 (by assumption) | exact gL3 (by assumption) | exact gL4 (by assumption) | exact gL5 (by assumption) | exact gL6 (by assumption)) ?_
  refine Rn.iastN dX10_tells_54 (by first | rfl | exact gC1 (by assumption) | exact gC2 (by assumption) | exact gC3 (by assumption) | exact gL1 (by assumption) | exact gL2 (by assumption) | exact gL3 (by assumption) | exact gL4 (by assumption) | exact gL5 (by assumption) | exact gL6 (by assumption)) ?_
  refine Rn.aload_n dX10_tells_55 rfl rfl ?_
  refine Rn.getR dX10_tells_56 fd_X10_13_9 (by first | rfl | exact gC0 (by assumption) | exact gL0 (by assumption)) rfl ?_
  refine Rn.sipush (v := (nI 138)) dX10_tells_59 rfl ?_
  refine Rn.iload_n dX10_tells_62 rfl rfl ?_
  refine Rn.iastN dX10_tells_63 (by first | rfl | exact gC1 (by assumption) | exact gC2 (by assumption) | exact gC3 (by assumption) | exact gL1 (by assumption) | exact gL2 (by assumption) | exact gL3 (by assumption) | exact gL4 (by assumption) | exact gL5 (by assumption) | exact gL6 (by assumption)) ?_
  refine Rn.aload_n dX10_tells_64 rfl rfl ?_
  refine Rn.getR dX10_tells_65 fd_X10_13_9 (by first | rfl | exact gC0 (by assumption) | exact gL0 (by assumption)) rfl ?_
  refine Rn.sipush (v := (nI 139)) dX10_tells_68 rfl ?_
  refine Rn.iload_n dX10_tells_71 rfl rfl ?_
  refine Rn.iastN dX10_tells_72 (by first | rfl | exact gC1 (by assumption) | exact gC2 (by assumption) | exact gC3 (by assumption) | exact gL1 (by assumption) | exact gL2 (by assumption) | exact gL3 (by assumption) | exact gL4 (by assumption) | exact gL5 (by assumption) | exact gL6 (by assumption)) ?_
  refine Rn.aload_n dX10_tells_73 rfl rfl ?_
  refine Rn.getR dX10_tells_74 fd_X10_13_9 (by first | rfl | exact gC0 (by assumption) | exact gL0 (by assumption)) rfl ?_
  refine Rn.sipush (v := (nI 140)) dX10_tells_77 rfl ?_
  refine Rn.iload_n dX10_tells_80 rfl rfl ?_
  refine Rn.iastN dX10_tells_81 (by first | rfl | exact gC1 (by assumption) | exact gC2 (by assumption) | exact gC3 (by assumption) | exact gL1 (by assumption) | exact gL2 (by assumption) | exact gL3 (by assumption) | exact gL4 (by assumption) | exact gL5 (by assumption) | exact gL6 (by assumption)) ?_
  refine Rn.aload_n dX10_tells_82 rfl rfl ?_
  refine Rn.getR dX10_tells_83 fd_X10_13_9 (by first | rfl | exact gC0 (by assumption) | exact gL0 (by assumption)) rfl ?_
  refine Rn.bipush (v := (nI 7)) dX10_tells_86 rfl ?_
  refine Rn.bipush (v := (nI 60)) dX10_tells_88 rfl ?_
  refine Rn.aload_n dX10_tells_90 rfl rfl ?_
  refine Rn.getR dX10_tells_91 fd_X10_13_9 (by first | rfl | exact gC0 (by assumption) | exact gL0 (by assumption)) rfl ?_
  refine Rn.bipush (v := (nI 7)) dX10_tells_94 rfl ?_
  refine Rn.ialdN dX10_tells_96 (by first | rfl | exact gC1 (by assumption) | exact gC2 (by assumption) | exact gC3 (by assumption) | exact gL1 (by assumption) | exact gL2 (by assumption) | exact gL3 (by assumption) | exact gL4 (by assumption) | exact gL5 (by assumption) | exact gL6 (by assumption)) ?_
  refine Rn.iconst (v := (nI 1)) dX10_tells_97 rfl ?_
  refine Rn.iadd dX10_tells_98 ?_
  refine Rn.mmin dX10_tells_99 ms_X10_266 (Nat.le_of_ble_eq_true rfl) ?_
  refine Rn.iastN dX10_tells_102 (by first | rfl | exact gC1 (by assumption) | exact gC2 (by assumption) | exact gC3 (by assumption) | exact gL1 (by assumption) | exact gL2 (by assumption) | exact gL3 (by assumption) | exact gL4 (by assumption) | exact gL5 (by assumption) | exact gL6 (by assumption)) ?_
  exact Rn.vret dX10_tells_103 rfl (⟨rfl, by simp only [zup_zset]; rfl⟩)
/-- whether the thing comes to her on a day -/
abbrev comesP (W : Nat → Int32) (t w : Nat) : Prop := ¬ W (65 + 9 * t + 5) = -1 ∧ ¬ (W (65 + 9 * t + 7) = nI 1 ∧ ¬ W (65 + 9 * t + 5) = nI w) ∧ (W (65 + 9 * t + 5) = nI w ∨ ¬ W (9 + 7 * (W (65 + 9 * t + 5)).toNatClampNeg + 6) = nI 1)
theorem ct_comesTo (t w : Nat) (ht : t < 8) (hh : I 95 (65 + 9 * t + 5) = -1 ∨ ∃ q, q < 8 ∧ I 95 (65 + 9 * t + 5) = nI q) : Ct G GAM mX10_comesTo (d + 4) 0 [.ref 94, .int (nI t), .int (nI w)] I (Rp (some (.int (bI (comesP (I 95) t w)))) I) := by
  refine Ct.mk [some (.ref 94), some (.int (nI t)), some (.int (nI w))] ?_
  refine Rn.aload_n dX10_comesTo_0 rfl rfl ?_
  refine Rn.iload_n dX10_comesTo_1 rfl rfl ?_
  refine Rn.callVp (As := [_]) dX10_comesTo_2 mv_X10_305 (by first | rfl | exact gC0 (by assumption) | exact gL0 (by assumption)) rfl rfl rfl (Nat.le_of_ble_eq_true rfl) (ct_isPawned G _ _ _ (by omega)) ?_
  refine Rn.if_neB dX10_comesTo_5 17 (fun h1 => ?_) (fun h1 => ?_)
  · refine Rn.iconst (v := (nI 0)) dX10_comesTo_17 rfl ?_
    exact Rn.zret dX10_comesTo_18 rfl rfl (⟨by rw [bI_f (fun q => q.1 h1)]; rfl, rfl⟩)
  · refine Rn.aload_n dX10_comesTo_8 rfl rfl ?_
    refine Rn.iload_n dX10_comesTo_9 rfl rfl ?_
    refine Rn.iload_n dX10_comesTo_10 rfl rfl ?_
    refine Rn.callVp (As := [_, _]) dX10_comesTo_11 mv_X10_308 (by first | rfl | exact gC0 (by assumption) | exact gL0 (by assumption)) rfl rfl rfl (Nat.le_of_ble_eq_true rfl) (ct_isStuckElsewhere G _ _ _ _ (by omega)) ?_
    refine Rn.if_eqB dX10_comesTo_14 19 (fun h2 => ?_) (fun h2 => ?_)
    · refine Rn.aload_n dX10_comesTo_19 rfl rfl ?_
      refine Rn.iload_n dX10_comesTo_20 rfl rfl ?_
      refine Rn.iconst (v := (nI 5)) dX10_comesTo_21 rfl ?_
      refine Rn.callVp (As := [_, _]) dX10_comesTo_22 mv_X10_71 (by first | rfl | exact gC0 (by assumption) | exact gL0 (by assumption)) rfl rfl rfl (Nat.le_of_ble_eq_true rfl) (ct_ofThing G _ _ _ _ (by omega)) ?_
      refine Rn.iload_n dX10_comesTo_25 rfl rfl ?_
      refine Rn.icmp_eq (tgt := 42) dX10_comesTo_26 (by decide) (fun h3 => ?_) (fun h3 => ?_)
      · refine Rn.iconst (v := (nI 1)) dX10_comesTo_42 rfl ?_
        refine Rn.goto 47 dX10_comesTo_43 (by decide) ?_
        exact Rn.zret dX10_comesTo_47 rfl rfl (⟨by rw [bI_t ⟨h1, h2, Or.inl h3⟩]; rfl, rfl⟩)
      · obtain ⟨q, hq, eq⟩ := hh.resolve_left h1
        refine Rn.aload_n dX10_comesTo_29 rfl rfl ?_
        refine Rn.aload_n dX10_comesTo_30 rfl rfl ?_
        refine Rn.iload_n dX10_comesTo_31 rfl rfl ?_
        refine Rn.iconst (v := (nI 5)) dX10_comesTo_32 rfl ?_
        refine Rn.callVp (As := [_, _]) dX10_comesTo_33 mv_X10_71 (by first | rfl | exact gC0 (by assumption) | exact gL0 (by assumption)) rfl rfl rfl (Nat.le_of_ble_eq_true rfl) (ct_ofThing G _ _ _ _ (by omega)) ?_
        refine Rn.topI (nI q) (by exact eq) ?_
        refine Rn.callVp (As := [_]) dX10_comesTo_36 mv_X10_311 (by first | rfl | exact gC0 (by assumption) | exact gL0 (by assumption)) rfl rfl rfl (Nat.le_of_ble_eq_true rfl) (ct_isWidow G _ _ _ (by omega)) ?_
        refine Rn.if_neB dX10_comesTo_39 46 (fun h4 => ?_) (fun h4 => ?_)
        · refine Rn.iconst (v := (nI 0)) dX10_comesTo_46 rfl ?_
          exact Rn.zret dX10_comesTo_47 rfl rfl (⟨by rw [bI_f (fun z => z.2.2.elim h3 (fun z => z (by rw [eq, nI_clamp (by omega)]; exact h4)))]; rfl, rfl⟩)
        · refine Rn.iconst (v := (nI 1)) dX10_comesTo_42 rfl ?_
          refine Rn.goto 47 dX10_comesTo_43 (by decide) ?_
          exact Rn.zret dX10_comesTo_47 rfl rfl (⟨by rw [bI_t ⟨h1, h2, Or.inr (fun z => h4 (by rw [eq, nI_clamp (by omega)] at z; exact z))⟩]; rfl, rfl⟩)
    · refine Rn.iconst (v := (nI 0)) dX10_comesTo_17 rfl ?_
      exact Rn.zret dX10_comesTo_18 rfl rfl (⟨by rw [bI_f (fun q => q.2.1 h2)]; rfl, rfl⟩)
abbrev mayNotP (W : Nat → Int32) (t : Nat) (w : Int32) : Prop := W (65 + 9 * t + 5) = -1 ∨ W (65 + 9 * t + 7) = nI 1 ∨ (W (9 + 7 * (W (65 + 9 * t + 5)).toNatClampNeg + 6) = nI 1 ∧ ¬ W (65 + 9 * t + 5) = W (65 + 9 * t + 4) ∧ ¬ w = W (65 + 9 * t + 4))
theorem ct_mayNot (t : Nat) (w : Int32) (ht : t < 8) (hh : I 95 (65 + 9 * t + 5) = -1 ∨ ∃ q, q < 8 ∧ I 95 (65 + 9 * t + 5) = nI q) : Ct G GAM mX10_mayNot (d + 3) 0 [.ref 94, .int (nI t), .int w] I (Rp (some (.int (bI (mayNotP (I 95) t w)))) I) := by
  refine Ct.mk [some (.ref 94), some (.int (nI t)), some (.int w), none] ?_
  refine Rn.aload_n dX10_mayNot_0 rfl rfl ?_
  refine Rn.iload_n dX10_mayNot_1 rfl rfl ?_
  refine Rn.callVp (As := [_]) dX10_mayNot_2 mv_X10_305 (by first | rfl | exact gC0 (by assumption) | exact gL0 (by assumption)) rfl rfl rfl (Nat.le_of_ble_eq_true rfl) (ct_isPawned G _ _ _ (by omega)) ?_
  refine Rn.if_neB dX10_mayNot_5 16 (fun h1 => ?_) (fun h1 => ?_)
  · refine Rn.iconst (v := (nI 1)) dX10_mayNot_16 rfl ?_
    exact Rn.zret dX10_mayNot_17 rfl rfl (⟨by rw [bI_t (Or.inl h1)]; rfl, rfl⟩)
  · refine Rn.aload_n dX10_mayNot_8 rfl rfl ?_
    refine Rn.iload_n dX10_mayNot_9 rfl rfl ?_
    refine Rn.callVp (As := [_]) dX10_mayNot_10 mv_X10_302 (by first | rfl | exact gC0 (by assumption) | exact gL0 (by assumption)) rfl rfl rfl (Nat.le_of_ble_eq_true rfl) (ct_isStuck G _ _ _ (by omega)) ?_
    refine Rn.if_eqB dX10_mayNot_13 18 (fun h2 => ?_) (fun h2 => ?_)
    · obtain ⟨q, hq, eq⟩ := hh.resolve_left h1
      have eq2 : (I 95 (65 + 9 * t + 5)).toNatClampNeg = q := by rw [eq, nI_clamp (by omega)]
      refine Rn.aload_n dX10_mayNot_18 rfl rfl ?_
      refine Rn.iload_n dX10_mayNot_19 rfl rfl ?_
      refine Rn.iconst (v := (nI 5)) dX10_mayNot_20 rfl ?_
      refine Rn.callVp (As := [_, _]) dX10_mayNot_21 mv_X10_71 (by first | rfl | exact gC0 (by assumption) | exact gL0 (by assumption)) rfl rfl rfl (Nat.le_of_ble_eq_true rfl) (ct_ofThing G _ _ _ _ (by omega)) ?_
      refine Rn.topI (nI q) (by exact eq) ?_
      refine Rn.istore_n dX10_mayNot_24 rfl (by decide) ?_
      refine Rn.aload_n dX10_mayNot_25 rfl rfl ?_
      refine Rn.iload_n dX10_mayNot_26 rfl rfl ?_
      refine Rn.callVp (As := [_]) dX10_mayNot_27 mv_X10_311 (by first | rfl | exact gC0 (by assumption) | exact gL0 (by assumption)) rfl rfl rfl (Nat.le_of_ble_eq_true rfl) (ct_isWidow G _ _ _ (by omega)) ?_
      refine Rn.if_eqB dX10_mayNot_30 57 (fun h3 => ?_) (fun h3 => ?_)
      · refine Rn.iconst (v := (nI 0)) dX10_mayNot_57 rfl ?_
        exact Rn.zret dX10_mayNot_58 rfl rfl (⟨by rw [bI_f (fun z => z.elim h1 (fun z => z.elim h2 (fun z => h3 (by rw [eq2] at z; exact z.1))))]; rfl, rfl⟩)
      · refine Rn.iload_n dX10_mayNot_33 rfl rfl ?_
        refine Rn.aload_n dX10_mayNot_34 rfl rfl ?_
        refine Rn.iload_n dX10_mayNot_35 rfl rfl ?_
        refine Rn.iconst (v := (nI 4)) dX10_mayNot_36 rfl ?_
        refine Rn.callVp (As := [_, _]) dX10_mayNot_37 mv_X10_71 (by first | rfl | exact gC0 (by assumption) | exact gL0 (by assumption)) rfl rfl rfl (Nat.le_of_ble_eq_true rfl) (ct_ofThing G _ _ _ _ (by omega)) ?_
        refine Rn.icmp_eq (tgt := 57) dX10_mayNot_40 (by decide) (fun h4 => ?_) (fun h4 => ?_)
        · refine Rn.iconst (v := (nI 0)) dX10_mayNot_57 rfl ?_
          exact Rn.zret dX10_mayNot_58 rfl rfl (⟨by rw [bI_f (fun z => z.elim h1 (fun z => z.elim h2 (fun z => z.2.1 (by rw [eq]; exact h4))))]; rfl, rfl⟩)
        · refine Rn.iload_n dX10_mayNot_43 rfl rfl ?_
          refine Rn.aload_n dX10_mayNot_44 rfl rfl ?_
          refine Rn.iload_n dX10_mayNot_45 rfl rfl ?_
          refine Rn.iconst (v := (nI 4)) dX10_mayNot_46 rfl ?_
          refine Rn.callVp (As := [_, _]) dX10_mayNot_47 mv_X10_71 (by first | rfl | exact gC0 (by assumption) | exact gL0 (by assumption)) rfl rfl rfl (Nat.le_of_ble_eq_true rfl) (ct_ofThing G _ _ _ _ (by omega)) ?_
          refine Rn.icmp_eq (tgt := 57) dX10_mayNot_50 (by decide) (fun h5 => ?_) (fun h5 => ?_)
          · refine Rn.iconst (v := (nI 0)) dX10_mayNot_57 rfl ?_
            exact Rn.zret dX10_mayNot_58 rfl rfl (⟨by rw [bI_f (fun z => z.elim h1 (fun z => z.elim h2 (fun z => z.2.2 h5)))]; rfl, rfl⟩)
          · refine Rn.iconst (v := (nI 1)) dX10_mayNot_53 rfl ?_
            refine Rn.goto 58 dX10_mayNot_54 (by decide) ?_
            exact Rn.zret dX10_mayNot_58 rfl rfl (⟨by rw [bI_t (Or.inr (Or.inr ⟨by rw [eq2]; exact h3, by rw [eq]; exact h4, h5⟩))]; rfl, rfl⟩)
    · refine Rn.iconst (v := (nI 1)) dX10_mayNot_16 rfl ?_
      exact Rn.zret dX10_mayNot_17 rfl rfl (⟨by rw [bI_t (Or.inr (Or.inl h2))]; rfl, rfl⟩)
end RefF
