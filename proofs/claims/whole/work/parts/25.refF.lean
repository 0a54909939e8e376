/-- the state with scratch cells g, h and the world V -/
abbrev zW (I : Hi) (g h V : Nat → Int32) : Hi := zset (zset (zset I 102 g) 103 h) 95 V
theorem zW_self (I : Hi) : zW I (I 102) (I 103) (I 95) = I := by
  funext k
  simp only [zW, zset]
  by_cases h1 : k = 95
  · subst h1; simp
  · by_cases h2 : k = 103
    · subst h2; simp
    · by_cases h3 : k = 102
      · subst h3; simp
      · simp [h1, h2, h3]
theorem zW_zW (I : Hi) (g h V g' h' V' : Nat → Int32) : zW (zW I g h V) g' h' V' = zW I g' h' V' := by
  funext k
  simp only [zW, zset]
  by_cases h1 : k = 95
  · subst h1; simp
  · by_cases h2 : k = 103
    · subst h2; simp
    · by_cases h3 : k = 102
      · subst h3; simp
      · simp [h1, h2, h3]
theorem zW_up (I : Hi) (g h V : Nat → Int32) (j : Nat) (v : Int32) : zup (zW I g h V) 95 j v = zW I g h (upd V j v) := zup_zset _ _ _ _ _
theorem Rn.callVw {G : Gx} {Ga : List Shp} {Y : Ym} {kx : Kx} {d b pc pc' : Nat} {ls : List (Option Value)} {st : List Value} {I : Hi} {C : String} {T : u_T} {N ci idx a n : Nat} {fl : List (Option (Option Nat))} {As rest : List Value} {y : Ym} {v : Option Value} {g0 h0 V0 V' : Nat → Int32} (hd : decode Y.2.1 pc = .ok (.invokevirtual idx, 3)) (hM : zMv Y.1.cls idx C y n) (hG : Ga[a]? = some (.inl (ci, fl))) (hC : vwCl[ci]? = some (C, T, N))
    (hst : st = As.reverse ++ .ref a :: rest) (hn : As.length = n) (hr : (rest.map fun v => v.category).sum ≤ 8) (hct : Ct G Ga y d 0 (.ref a :: As) (zW I g0 h0 V0) (Rw v (zW I g0 h0 V0) V'))
    (k : ∀ g h, Rn G Ga Y kx (d + 1) b pc' ls (v.toList ++ rest) (zW I g h V')) (hp : pc + 3 = pc' := by rfl) : Rn G Ga Y kx (d + 1) b pc ls st (zW I g0 h0 V0) :=
  Rn.callV hd hM hG hC hst hn hr hct (fun E J h => nomatch h.1) (fun w K h => by
    obtain ⟨h1, g, hh, h2⟩ := h
    cases h1
    rw [h2]
    exact Rn.hpp _ (zW_zW _ _ _ _ _ _ _) (k g hh)) hp
def shL (W : Nat → Int32) (k : Nat) : Nat → Int32 := fun j => if 137 + k < j ∧ j ≤ 376 then W (j - 4) else W j
theorem shL_upd (W : Nat → Int32) (n : Nat) (h : n ≤ 235) : upd (shL W (n + 4)) (137 + (n + 4)) (shL W (n + 4) (137 + n)) = shL W (n + 3) := by
  funext j
  simp only [upd, shL]
  by_cases e : j = 137 + (n + 4)
  · subst e
    rw [if_pos rfl, if_neg (by omega), if_pos (by omega)]
    congr 1
  · rw [if_neg e]
    by_cases q : 137 + (n + 4) < j ∧ j ≤ 376
    · rw [if_pos q, if_pos (by omega)]
    · rw [if_neg q, if_neg (by omega)]
theorem shL_0 (W : Nat → Int32) : shL W 239 = W := by
  funext j
  simp only [shL]
  exact if_neg (by omega)
def tellW (W : Nat → Int32) (w t : Nat) (n : Int32) : Nat → Int32 :=
  upd (upd (upd (upd (upd (shL W 3) 137 (shL W 3 4)) 138 (nI w)) 139 (nI t)) 140 n) 7 (imin (nI 60) (W 7 + nI 1))
def drawN (s : Int32) : Nat := (nseed s >>> (nI 16 &&& 31)).toBitVec.toNat % 32768
theorem ndraw_N (s : Int32) : ndraw s = nI (drawN s) := pk_and _ 15 (by decide)
theorem drawN_lt (s : Int32) : drawN s < 32768 := Nat.mod_lt _ (by decide)
section RefF
variable (G : Gx) (d : Nat) (I : Hi)
theorem lp_tells {kx : Kx} {b : Nat} (W0 : Nat → Int32) (x1 x2 x3 : Option Value) (k : Rn G GAM mX10_tells kx d b 41 [some (.ref 94), x1, x2, x3, some (.int (nI 3))] [] (zset I 95 (shL W0 3))) :
    ∀ n, n ≤ 236 → Rn G GAM mX10_tells kx d b 5 [some (.ref 94), x1, x2, x3, some (.int (nI (n + 3)))] [] (zset I 95 (shL W0 (n + 3))) := by
  intro n
  induction n with
  | zero =>
    intro _
    refine Rn.iload dX10_tells_5 rfl ?_
    refine Rn.iconst (v := (nI 4)) dX10_tells_7 rfl ?_
    refine Rn.icmp_ltN dX10_tells_8 41 (fun _ => ?_) (fun h9 => by exfalso; omega)
    exact k
  | succ n ih =>
    intro hn
    refine Rn.iload dX10_tells_5 rfl ?_
    refine Rn.iconst (v := (nI 4)) dX10_tells_7 rfl ?_
    refine Rn.icmp_ltN dX10_tells_8 41 (fun h9 => by exfalso; omega) (fun _ => ?_)
    refine Rn.aload_n dX10_tells_11 rfl rfl ?_
    refine Rn.getR dX10_tells_12 fd_X10_13_9 (by first | rfl | exact gC0 (by assumption) | exact gL0 (by assumption)) rfl ?_
    refine Rn.sipush (v := (nI 137)) dX10_tells_15 rfl ?_
    refine Rn.iload dX10_tells_18 rfl ?_
    refine Rn.iadd dX10_tells_20 ?_
    refine Rn.topI (nI (137 + (n + 4))) (by simp only [nI_add]) ?_
    refine Rn.aload_n dX10_tells_21 rfl rfl ?_
    refine Rn.getR dX10_tells_22 fd_X10_13_9 (by first | rfl | exact gC0 (by assumption) | exact gL0 (by assumption)) rfl ?_
    refine Rn.sipush (v := (nI 137)) dX10_tells_25 rfl ?_
    refine Rn.iload dX10_tells_28 rfl ?_
    refine Rn.iadd dX10_tells_30 ?_
    refine Rn.topI (nI (137 + (n + 4))) (by simp only [nI_add]) ?_
    refine Rn.iconst (v := (nI 4)) dX10_tells_31 rfl ?_
    refine Rn.isub dX10_tells_32 ?_
    refine Rn.topI (nI (137 + n)) (by rw [pk_sub (by omega)]; congr 1) ?_
    refine Rn.ialdN dX10_tells_33 (by first | rfl | exact gC1 (by assumption) | exact gC2 (by assumption) | exact gC3 (by assumption) | exact gL1 (by assumption) | exact gL2 (by assumption) | exact gL3 (by assumption) | exact gL4 (by assumption) | exact gL5 (by assumption) | exact gL6 (by assumption)) ?_
    refine Rn.iastN dX10_tells_34 (by first | rfl | exact gC1 (by assumption) | exact gC2 (by assumption) | exact gC3 (by assumption) | exact gL1 (by assumption) | exact gL2 (by assumption) | exact gL3 (by assumption) | exact gL4 (by assumption) | exact gL5 (by assumption) | exact gL6 (by assumption)) ?_
    refine Rn.iinc (v := nI (n + 3)) dX10_tells_35 rfl (by exact pk_m1 _) (by decide) ?_
    refine Rn.goto 5 dX10_tells_38 (by decide) ?_
    refine Rn.hpp _ ?_ (ih (by omega))
    rw [zup_zset]
    exact congrArg _ (shL_upd W0 n (by omega))
theorem ct_tells (w t : Nat) (n : Int32) : Ct G GAM mX10_tells d 0 [.ref 94, .int (nI w), .int (nI t), .int n] I (Rp none (zset I 95 (tellW (I 95) w t n))) := by
  refine Ct.mk [some (.ref 94), some (.int (nI w)), some (.int (nI t)), some (.int n), none] ?_
  refine Rn.sipush (v := (nI 239)) dX10_tells_0 rfl ?_
  refine Rn.istore dX10_tells_3 (by decide) ?_
  refine Rn.hpp (zset I 95 (shL (I 95) 239)) (by rw [shL_0, zset_self]) (lp_tells G d I (I 95) _ _ _ ?_ 236 (by omega))
  refine Rn.aload_n dX10_tells_41 rfl rfl ?_
  refine Rn.getR dX10_tells_42 fd_X10_13_9 (by first | rfl | exact gC0 (by assumption) | exact gL0 (by assumption)) rfl ?_
  refine Rn.sipush (v := (nI 137)) dX10_tells_45 rfl ?_
  refine Rn.aload_n dX10_tells_48 rfl rfl ?_
  refine Rn.getR dX10_tells_49 fd_X10_13_9 (by first | rfl | exact gC0 (by assumption) | exact gL0 (by assumption)) rfl ?_
  refine Rn.iconst (v := (nI 4)) dX10_tells_52 rfl ?_
  refine Rn.ialdN dX10_tells_53 (by first | rfl | exact gC1 (by assumption) | exact gC2 (by assumption) | exact gC3 (by assumption) | exact gL1 (by assumption) | exact gL2 (by assumption) | exact gL3 (by assumption) | exact gL4 (by assumption) | exact gL5 (by assumption) | exact gL6 (by assumption)) ?_
  refine Rn.iastN dX10_tells_54 (by first | rfl | exact gC1 (by assumption) | exact gC2 (by assumption) | exact gC3 (by assumption) | exact gL1 (by assumption) | exact gL2 (by assumption) | exact gL3 (by assumption) | exact gL4 (by assumption) | exact gL5 (by assumption) | exact gL6 (by assumption)) ?_
  refine Rn.aload_n dX10_tells_55 rfl rfl ?_
  refine Rn.getR dX10_tells_56 fd_X10_13_9 (by first | rfl | exact gC0 (by assumption) | exact gL0 (by assumption)) rfl ?_
  refine Rn.sipush (v := (nI 138)) dX10_tells_59 rfl ?_
  refine Rn.iload_n dX10_tells_62 rfl rfl ?_
  refine Rn.iastN dX10_tells_63 (by first | rfl | exact gC1 (by assumption) | exact gC2 (by assumption) | exact gC3 (by assumption) | exact gL1 (by assumption) | exact gL2 (by assumption) | exact gL3 (by assumption) | exact gL4 (by assumption) | exact gL5 (by assumption) | exact gL6 (by assumption)) ?_
  refine Rn.aload_n dX10_tells_64 rfl rfl ?_
  refine Rn.getR dX10_tells_65 fd_X10_13_9 (by first | rfl | exact gC0 (by assumption) | exact gL0 (by assumption)) rfl ?_
  refine Rn.sipush (v := (nI 139)) dX10_tells_68 rfl ?_
  refine Rn.iload_n dX10_tells_71 rfl rfl ?_
  refine Rn.iastN dX10_tells_72 (by first | rfl | exact gC1 (by assumption) | exact gC2 (by assumption) | exact gC3 (by assumption) | exact gL1 (by assumption) | exact gL2 (by assumption) | exact gL3 (by assumption) | exact gL4 (by assumption) | exact gL5 (by assumption) | exact gL6 (by assumption)) ?_
  refine Rn.aload_n dX10_tells_73 rfl rfl ?_
  refine Rn.getR dX10_tells_74 fd_X10_13_9 (by first | rfl | exact gC0 (by assumption) | exact gL0 (by assumption)) rfl ?_
  refine Rn.sipush (v := (nI 140)) dX10_tells_77 rfl ?_
  refine Rn.iload_n dX10_tells_80 rfl rfl ?_
  refine Rn.iastN dX10_tells_81 (by first | rfl | exact gC1 (by assumption) | exact gC2 (by assumption) | exact gC3 (by assumption) | exact gL1 (by assumption) | exact gL2 (by assumption) | exact gL3 (by assumption) | exact gL4 (by assumption) | exact gL5 (by assumption) | exact gL6 (by assumption)) ?_
  refine Rn.aload_n dX10_tells_82 rfl rfl ?_
  refine Rn.getR dX10_tells_83 fd_X10_13_9 (by first | rfl | exact gC0 (by assumption) | exact gL0 (by assumption)) rfl ?_
  refine Rn.bipush (v := (nI 7)) dX10_tells_86 rfl ?_
  refine Rn.bipush (v := (nI 60)) dX10_tells_88 rfl ?_
  refine Rn.aload_n dX10_tells_90 rfl rfl ?_
  refine Rn.getR dX10_tells_91 fd_X10_13_9 (by first | rfl | exact gC0 (by assumption) | exact gL0 (by assumption)) rfl ?_
  refine Rn.bipush (v := (nI 7)) dX10_tells_94 rfl ?_
  refine Rn.ialdN dX10_tells_96 (by first | rfl | exact gC1 (by assumption) | exact gC2 (by assumption) | exact gC3 (by assumption) | exact gL1 (by assumption) | exact gL2 (by assumption) | exact gL3 (by assumption) | exact gL4 (by assumption) | exact gL5 (by assumption) | exact gL6 (by assumption)) ?_
  refine Rn.iconst (v := (nI 1)) dX10_tells_97 rfl ?_
  refine Rn.iadd dX10_tells_98 ?_
  refine Rn.mmin dX10_tells_99 ms_X10_266 (Nat.le_of_ble_eq_true rfl) ?_
  refine Rn.iastN dX10_tells_102 (by first | rfl | exact gC1 (by assumption) | exact gC2 (by assumption) | exact gC3 (by assumption) | exact gL1 (by assumption) | exact gL2 (by assumption) | exact gL3 (by assumption) | exact gL4 (by assumption) | exact gL5 (by assumption) | exact gL6 (by assumption)) ?_
  exact Rn.vret dX10_tells_103 rfl (⟨rfl, by simp only [zup_zset]; rfl⟩)
/-- whether the thing comes to her on a day -/
def comesP (W : Nat → Int32) (t w : Nat) : Prop := ¬ W (65 + 9 * t + 5) = -1 ∧ ¬ (W (65 + 9 * t + 7) = nI 1 ∧ ¬ W (65 + 9 * t + 5) = nI w) ∧ (W (65 + 9 * t + 5) = nI w ∨ ¬ W (9 + 7 * (W (65 + 9 * t + 5)).toNatClampNeg + 6) = nI 1)
end RefF
