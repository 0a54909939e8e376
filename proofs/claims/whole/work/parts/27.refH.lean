theorem WI_day {W : Nat → Int32} {op bg en : Nat → Nat} {L N T : Nat} (h : WI W N T) : WI (dayW W op bg en L N T) N T := by
  have hF : ∀ {V : Nat → Int32}, WI V N T → WI (dayF V) N T := fun h => WI_upd (by omega) (by omega) (fun t ht => by omega) h
  have h2 : WI (day2 W) N T := WI_upd (by omega) (by omega) (fun t ht => by omega) (WI_upd (by omega) (by omega) (fun t ht => by omega) h)
  obtain ⟨hN8, hT8, -⟩ := id h
  rw [dayW]
  split
  · exact hF h
  · rename_i hno
    have hw : dayw W N < N := Nat.mod_lt _ (by omega)
    have ht : dayt W T < T := Nat.mod_lt _ (by omega)
    refine hF ?_
    have hM : WI (dayM (day2 W) op bg en L (dayw W N) (dayt W T)) N T := by
      rw [dayM]
      split
      · exact WI_tell (WI_wed (by omega) (by omega) (WI_hold ht hw h2))
      · exact h2
    rw [dayE]
    split
    · exact WI_upd (by omega) (by omega) (fun t ht => by omega) (WI_upd (by omega) (by omega) (fun t ht => by omega) hM)
    · exact WI_upd (by omega) (by omega) (fun t ht => by omega) hM
theorem LawR_day {W : Nat → Int32} {op bg en : Nat → Nat} {L N T : Nat} (hWI : WI W N T) (h : LawR W op bg en L) : LawR (dayW W op bg en L N T) op bg en L := by
  have hF : ∀ {V : Nat → Int32}, LawR V op bg en L → LawR (dayF V) op bg en L := fun h => LawR_upd (by omega) (by omega) h
  have h2 : LawR (day2 W) op bg en L := LawR_upd (by omega) (by omega) (LawR_upd (by omega) (by omega) h)
  obtain ⟨hN8, hT8, -⟩ := id hWI
  rw [dayW]
  split
  · exact hF h
  · rename_i hno
    have hw : dayw W N < N := Nat.mod_lt _ (by omega)
    have ht : dayt W T < T := Nat.mod_lt _ (by omega)
    refine hF ?_
    have hM : LawR (dayM (day2 W) op bg en L (dayw W N) (dayt W T)) op bg en L := by
      rw [dayM]
      split
      · exact LawR_tell (LawR_wed (by omega) (by omega) (LawR_upd (by omega) (by omega) h2))
      · exact h2
    rw [dayE]
    split
    · exact LawR_upd (by omega) (by omega) (LawR_upd (by omega) (by omega) hM)
    · exact LawR_upd (by omega) (by omega) hM
/-- n days -/
def daysW (W : Nat → Int32) (op bg en : Nat → Nat) (L N T : Nat) : Nat → Nat → Int32
  | 0 => W
  | n + 1 => dayW (daysW W op bg en L N T n) op bg en L N T
def daysR (W : Nat → Int32) (op bg en : Nat → Nat) (L N T : Nat) : Nat → Int32
  | 0 => nI 0
  | n + 1 => daysR W op bg en L N T n + dayR (daysW W op bg en L N T n) N T
theorem WI_days {W : Nat → Int32} {op bg en : Nat → Nat} {L N T : Nat} (h : WI W N T) (hR : LawR W op bg en L) : ∀ n, WI (daysW W op bg en L N T n) N T ∧ LawR (daysW W op bg en L N T n) op bg en L
  | 0 => ⟨h, hR⟩
  | n + 1 => ⟨WI_day (WI_days h hR n).1, LawR_day (WI_days h hR n).1 (WI_days h hR n).2⟩
/-- what is remembered: the acts A, of which r are, and the world W now -/
def shA (A : Nat → Int32) (i : Nat) : Nat → Int32 := fun k => if k < i then A (k + 377) else A k
def puA (A W : Nat → Int32) (r i : Nat) : Nat → Int32 := fun j => if 377 * r ≤ j ∧ j < 377 * r + i then W (j - 377 * r) else A j
theorem shA_upd (A : Nat → Int32) (i : Nat) : upd (shA A i) i (shA A i (i + 377)) = shA A (i + 1) := by
  funext k
  simp only [upd, shA]
  by_cases e : k = i
  · subst e
    rw [if_pos rfl, if_neg (by omega), if_pos (by omega)]
  · rw [if_neg e]
    by_cases q : k < i
    · rw [if_pos q, if_pos (by omega)]
    · rw [if_neg q, if_neg (by omega)]
theorem puA_upd (A W : Nat → Int32) (r i : Nat) : upd (puA A W r i) (377 * r + i) (W i) = puA A W r (i + 1) := by
  funext k
  simp only [upd, puA]
  by_cases e : k = 377 * r + i
  · subst e
    rw [if_pos rfl, if_pos (by omega)]
    congr 1
    omega
  · rw [if_neg e]
    by_cases q : 377 * r ≤ k ∧ k < 377 * r + i
    · rw [if_pos q, if_pos (by omega)]
    · rw [if_neg q, if_neg (by omega)]
theorem shA_0 (A : Nat → Int32) : shA A 0 = A := by funext k; simp [shA]
theorem puA_0 (A W : Nat → Int32) (r : Nat) : puA A W r 0 = A := by funext k; simp only [puA]; exact if_neg (by omega)
def remA (A W : Nat → Int32) (r : Nat) : Nat → Int32 := if r = 12 then puA (shA A 4147) W 11 377 else puA A W r 377
def remR (r : Nat) : Nat := if r = 12 then 12 else r + 1
theorem zup_same {I : Hi} {a j : Nat} {v : Int32} (h : I a j = v) : zup I a j v = I := by
  subst h
  funext k
  simp only [zup, zset]
  by_cases e : k = a
  · subst e
    rw [if_pos rfl]
    funext q
    simp only [upd]
    by_cases e2 : q = j
    · subst e2; simp
    · simp [e2]
  · simp [e]
section RefH
variable (G : Gx) (d : Nat) (I : Hi) (op bg en : Nat → Nat) (L : Nat)
theorem lp_goesOn {kx : Kx} {b : Nat} (N T n : Nat) (hn : n < 2147483648) (W0 : Nat → Int32) (hWI : WI W0 N T) (hR : LawR W0 op bg en L)
    (k : ∀ g h, Rn G GAM mX10_goesOn kx (d + 9) b 22 [some (.ref 94), some (.int (nI n)), some (.int (daysR W0 op bg en L N T n)), some (.int (nI n))] [] (zW I g h (daysW W0 op bg en L N T n))) :
    ∀ (m i : Nat) (g h : Nat → Int32), i + m = n → Rn G GAM mX10_goesOn kx (d + 9) b 4 [some (.ref 94), some (.int (nI n)), some (.int (daysR W0 op bg en L N T i)), some (.int (nI i))] [] (zW I g h (daysW W0 op bg en L N T i)) := by
  intro m
  induction m with
  | zero =>
    intro i g h hi
    obtain rfl : i = n := by omega
    refine Rn.iload_n dX10_goesOn_4 rfl rfl ?_
    refine Rn.iload_n dX10_goesOn_5 rfl rfl ?_
    refine Rn.icmp_geN dX10_goesOn_6 22 (fun _ => ?_) (fun h9 => by exfalso; omega)
    exact k g h
  | succ m ih =>
    intro i g h hi
    refine Rn.iload_n dX10_goesOn_4 rfl rfl ?_
    refine Rn.iload_n dX10_goesOn_5 rfl rfl ?_
    refine Rn.icmp_geN dX10_goesOn_6 22 (fun h9 => by exfalso; omega) (fun _ => ?_)
    refine Rn.iload_n dX10_goesOn_9 rfl rfl ?_
    refine Rn.aload_n dX10_goesOn_10 rfl rfl ?_
    refine Rn.callVw (As := []) dX10_goesOn_11 mv_X10_327 (by first | rfl | exact gC0 (by assumption) | exact gL0 (by assumption)) rfl rfl rfl (Nat.le_of_ble_eq_true rfl) (ct_oneDay G _ _ op bg en L N T (WI_days hWI hR i).1 (WI_days hWI hR i).2) (fun g2 h2 => ?_)
    refine Rn.iadd dX10_goesOn_14 ?_
    refine Rn.istore_n dX10_goesOn_15 rfl (by decide) ?_
    refine Rn.iincN dX10_goesOn_16 rfl (by decide) ?_
    refine Rn.goto 4 dX10_goesOn_19 (by decide) ?_
    exact ih (i + 1) g2 h2 (by omega)
theorem ct_goesOn (N T n : Nat) (hn : n < 2147483648) (hWI : WI (I 95) N T) (hR : LawR (I 95) op bg en L) : Ct G GAM mX10_goesOn (d + 9) 0 [.ref 94, .int (nI n)] I (Rw (some (.int (daysR (I 95) op bg en L N T n))) I (daysW (I 95) op bg en L N T n)) := by
  refine Ct.mk [some (.ref 94), some (.int (nI n)), none, none] ?_
  refine Rn.hpp _ (zW_self I).symm ?_
  refine Rn.iconst (v := (nI 0)) dX10_goesOn_0 rfl ?_
  refine Rn.istore_n dX10_goesOn_1 rfl (by decide) ?_
  refine Rn.iconst (v := (nI 0)) dX10_goesOn_2 rfl ?_
  refine Rn.istore_n dX10_goesOn_3 rfl (by decide) ?_
  refine lp_goesOn G d I op bg en L N T n hn (I 95) hWI hR ?_ n 0 _ _ (by omega)
  intro g h
  refine Rn.iload_n dX10_goesOn_22 rfl rfl ?_
  exact Rn.iret dX10_goesOn_23 rfl (⟨rfl, g, h, rfl⟩)
theorem lp_rem1 {kx : Kx} {b : Nat} (J : Hi) (A0 : Nat → Int32) (k : Rn G GAM mX10_remembers kx d b 40 [some (.ref 94), some (.int (nI 4147))] [] (zset J 99 (shA A0 4147))) : ∀ n i : Nat, i + n = 4147 → Rn G GAM mX10_remembers kx d b 11 [some (.ref 94), some (.int (nI i))] [] (zset J 99 (shA A0 i)) := by
  intro n
  induction n with
  | zero =>
    intro i hi
    obtain rfl : i = 4147 := by omega
    refine Rn.iload_n dX10_remembers_11 rfl rfl ?_
    refine Rn.sipush (v := (nI 4147)) dX10_remembers_12 rfl ?_
    refine Rn.icmp_geN dX10_remembers_15 40 (fun _ => ?_) (fun h9 => by exfalso; omega)
    exact k
  | succ n ih =>
    intro i hi
    refine Rn.iload_n dX10_remembers_11 rfl rfl ?_
    refine Rn.sipush (v := (nI 4147)) dX10_remembers_12 rfl ?_
    refine Rn.icmp_geN dX10_remembers_15 40 (fun h9 => by exfalso; omega) (fun _ => ?_)
    refine Rn.aload_n dX10_remembers_18 rfl rfl ?_
    refine Rn.getR dX10_remembers_19 fd_X10_26_9 (by first | rfl | exact gC0 (by assumption) | exact gL0 (by assumption)) rfl ?_
    refine Rn.iload_n dX10_remembers_22 rfl rfl ?_
    refine Rn.aload_n dX10_remembers_23 rfl rfl ?_
    refine Rn.getR dX10_remembers_24 fd_X10_26_9 (by first | rfl | exact gC0 (by assumption) | exact gL0 (by assumption)) rfl ?_
    refine Rn.iload_n dX10_remembers_27 rfl rfl ?_
    refine Rn.sipush (v := (nI 377)) dX10_remembers_28 rfl ?_
    refine Rn.iadd dX10_remembers_31 ?_
    refine Rn.topI (nI (i + 377)) (by first | rfl | (simp only [nI_add, pk_mul, nI_1]; done) | (simp only [nI_add, pk_mul, nI_1]; congr 1; omega)) ?_
    refine Rn.ialdN dX10_remembers_32 (by first | rfl | exact gC1 (by assumption) | exact gC2 (by assumption) | exact gC3 (by assumption) | exact gL1 (by assumption) | exact gL2 (by assumption) | exact gL3 (by assumption) | exact gL4 (by assumption) | exact gL5 (by assumption) | exact gL6 (by assumption)) ?_
    refine Rn.iastN dX10_remembers_33 (by first | rfl | exact gC1 (by assumption) | exact gC2 (by assumption) | exact gC3 (by assumption) | exact gL1 (by assumption) | exact gL2 (by assumption) | exact gL3 (by assumption) | exact gL4 (by assumption) | exact gL5 (by assumption) | exact gL6 (by assumption)) ?_
    refine Rn.iincN dX10_remembers_34 rfl (by decide) ?_
    refine Rn.goto 11 dX10_remembers_37 (by decide) ?_
    exact Rn.hpp _ (by rw [zup_zset]; exact congrArg _ (shA_upd A0 i)) (ih (i + 1) (by omega))
theorem lp_rem2 {kx : Kx} {b : Nat} (J : Hi) (A0 : Nat → Int32) (r : Nat) (hr : r < 12) (h7 : J 94 7 = nI (r + 1)) (k : Rn G GAM mX10_remembers kx d b 91 [some (.ref 94), some (.int (nI 377))] [] (zset J 99 (puA A0 (J 95) r 377))) : ∀ n i : Nat, i + n = 377 → Rn G GAM mX10_remembers kx d b 55 [some (.ref 94), some (.int (nI i))] [] (zset J 99 (puA A0 (J 95) r i)) := by
  intro n
  induction n with
  | zero =>
    intro i hi
    obtain rfl : i = 377 := by omega
    refine Rn.iload_n dX10_remembers_55 rfl rfl ?_
    refine Rn.sipush (v := (nI 377)) dX10_remembers_56 rfl ?_
    refine Rn.icmp_geN dX10_remembers_59 91 (fun _ => ?_) (fun h9 => by exfalso; omega)
    exact k
  | succ n ih =>
    intro i hi
    refine Rn.iload_n dX10_remembers_55 rfl rfl ?_
    refine Rn.sipush (v := (nI 377)) dX10_remembers_56 rfl ?_
    refine Rn.icmp_geN dX10_remembers_59 91 (fun h9 => by exfalso; omega) (fun _ => ?_)
    refine Rn.aload_n dX10_remembers_62 rfl rfl ?_
    refine Rn.getR dX10_remembers_63 fd_X10_26_9 (by first | rfl | exact gC0 (by assumption) | exact gL0 (by assumption)) rfl ?_
    refine Rn.sipush (v := (nI 377)) dX10_remembers_66 rfl ?_
    refine Rn.aload_n dX10_remembers_69 rfl rfl ?_
    refine Rn.getI dX10_remembers_70 fd_X10_58_9 (by first | rfl | exact gC0 (by assumption) | exact gL0 (by assumption)) rfl ?_
    refine Rn.topI (nI (r + 1)) (by exact h7) ?_
    refine Rn.iconst (v := (nI 1)) dX10_remembers_73 rfl ?_
    refine Rn.isub dX10_remembers_74 ?_
    refine Rn.topI (nI r) (by exact pk_sub (by omega)) ?_
    refine Rn.imul dX10_remembers_75 ?_
    refine Rn.iload_n dX10_remembers_76 rfl rfl ?_
    refine Rn.iadd dX10_remembers_77 ?_
    refine Rn.topI (nI (377 * r + i)) (by simp only [pk_mul, nI_add]) ?_
    refine Rn.aload_n dX10_remembers_78 rfl rfl ?_
    refine Rn.getR dX10_remembers_79 fd_X10_13_9 (by first | rfl | exact gC0 (by assumption) | exact gL0 (by assumption)) rfl ?_
    refine Rn.iload_n dX10_remembers_82 rfl rfl ?_
    refine Rn.ialdN dX10_remembers_83 (by first | rfl | exact gC1 (by assumption) | exact gC2 (by assumption) | exact gC3 (by assumption) | exact gL1 (by assumption) | exact gL2 (by assumption) | exact gL3 (by assumption) | exact gL4 (by assumption) | exact gL5 (by assumption) | exact gL6 (by assumption)) ?_
    refine Rn.iastN dX10_remembers_84 (by first | rfl | exact gC1 (by assumption) | exact gC2 (by assumption) | exact gC3 (by assumption) | exact gL1 (by assumption) | exact gL2 (by assumption) | exact gL3 (by assumption) | exact gL4 (by assumption) | exact gL5 (by assumption) | exact gL6 (by assumption)) ?_
    refine Rn.iincN dX10_remembers_85 rfl (by decide) ?_
    refine Rn.goto 55 dX10_remembers_88 (by decide) ?_
    exact Rn.hpp _ (by rw [zup_zset]; exact congrArg _ (puA_upd A0 (J 95) r i)) (ih (i + 1) (by omega))
theorem ct_remembers (r : Nat) (hr : r ≤ 12) (h7 : I 94 7 = nI r) : Ct G GAM mX10_remembers d 0 [.ref 94] I (Rp none (zset (zup I 94 7 (nI (remR r))) 99 (remA (I 99) (I 95) r))) := by
  refine Ct.mk [some (.ref 94), none] ?_
  refine Rn.aload_n dX10_remembers_0 rfl rfl ?_
  refine Rn.getI dX10_remembers_1 fd_X10_58_9 (by first | rfl | exact gC0 (by assumption) | exact gL0 (by assumption)) rfl ?_
  refine Rn.topI (nI r) (by exact h7) ?_
  refine Rn.bipush (v := (nI 12)) dX10_remembers_4 rfl ?_
  refine Rn.icmp_neN dX10_remembers_6 43 (fun h1 => ?_) (fun h1 => ?_)
  · rw [remA, if_neg h1, remR, if_neg h1]
    refine Rn.aload_n dX10_remembers_43 rfl rfl ?_
    refine Rn.dup dX10_remembers_44 rfl ?_
    refine Rn.getI dX10_remembers_45 fd_X10_58_9 (by first | rfl | exact gC0 (by assumption) | exact gL0 (by assumption)) rfl ?_
    refine Rn.topI (nI r) (by exact h7) ?_
    refine Rn.iconst (v := (nI 1)) dX10_remembers_48 rfl ?_
    refine Rn.iadd dX10_remembers_49 ?_
    refine Rn.topI (nI (r + 1)) (by exact nI_1 r) ?_
    refine Rn.putI dX10_remembers_50 fp_X10_58_9 (by first | rfl | exact gC0 (by assumption) | exact gL0 (by assumption)) rfl ?_
    refine Rn.iconst (v := (nI 0)) dX10_remembers_53 rfl ?_
    refine Rn.istore_n dX10_remembers_54 rfl (by decide) ?_
    refine Rn.hpp (zset (zup I 94 7 (nI (r + 1))) 99 (puA (I 99) (I 95) r 0)) (by rw [puA_0]; exact (zset_self _ 99).symm) (lp_rem2 G d (zup I 94 7 (nI (r + 1))) (I 99) r (by omega) rfl ?_ 377 0 rfl)
    exact Rn.vret dX10_remembers_91 rfl (⟨rfl, rfl⟩)
  · subst h1
    rw [remA, if_pos rfl, remR, if_pos rfl, zup_same h7]
    refine Rn.iconst (v := (nI 0)) dX10_remembers_9 rfl ?_
    refine Rn.istore_n dX10_remembers_10 rfl (by decide) ?_
    refine Rn.hpp (zset I 99 (shA (I 99) 0)) (by rw [shA_0]; exact (zset_self _ 99).symm) (lp_rem1 G d I (I 99) ?_ 4147 0 rfl)
    refine Rn.goto 53 dX10_remembers_40 (by decide) ?_
    refine Rn.iconst (v := (nI 0)) dX10_remembers_53 rfl ?_
    refine Rn.istore_n dX10_remembers_54 rfl (by decide) ?_
    refine Rn.hpp (zset (zset I 99 (shA (I 99) 4147)) 99 (puA (shA (I 99) 4147) (I 95) 11 0)) (by rw [puA_0]; exact (zset_zset _ _ _ _).symm) (lp_rem2 G d (zset I 99 (shA (I 99) 4147)) (shA (I 99) 4147) 11 (by omega) h7 ?_ 377 0 rfl)
    exact Rn.vret dX10_remembers_91 rfl (⟨rfl, by rw [zset_zset]; rfl⟩)
theorem lp_undo {kx : Kx} {b : Nat} (J : Hi) (W0 : Nat → Int32) (r : Nat) (hr : r < 12) (h7 : J 94 7 = nI r) (k : Rn G GAM mX10_undo kx d b 60 [some (.ref 94), some (.int (nI 377))] [] (zset J 95 (cp (fun q => J 99 (377 * r + q)) W0 377))) : ∀ n i : Nat, i + n = 377 → Rn G GAM mX10_undo kx d b 26 [some (.ref 94), some (.int (nI i))] [] (zset J 95 (cp (fun q => J 99 (377 * r + q)) W0 i)) := by
  intro n
  induction n with
  | zero =>
    intro i hi
    obtain rfl : i = 377 := by omega
    refine Rn.iload_n dX10_undo_26 rfl rfl ?_
    refine Rn.sipush (v := (nI 377)) dX10_undo_27 rfl ?_
    refine Rn.icmp_geN dX10_undo_30 60 (fun _ => ?_) (fun h9 => by exfalso; omega)
    exact k
  | succ n ih =>
    intro i hi
    refine Rn.iload_n dX10_undo_26 rfl rfl ?_
    refine Rn.sipush (v := (nI 377)) dX10_undo_27 rfl ?_
    refine Rn.icmp_geN dX10_undo_30 60 (fun h9 => by exfalso; omega) (fun _ => ?_)
    refine Rn.aload_n dX10_undo_33 rfl rfl ?_
    refine Rn.getR dX10_undo_34 fd_X10_13_9 (by first | rfl | exact gC0 (by assumption) | exact gL0 (by assumption)) rfl ?_
    refine Rn.iload_n dX10_undo_37 rfl rfl ?_
    refine Rn.aload_n dX10_undo_38 rfl rfl ?_
    refine Rn.getR dX10_undo_39 fd_X10_26_9 (by first | rfl | exact gC0 (by assumption) | exact gL0 (by assumption)) rfl ?_
    refine Rn.sipush (v := (nI 377)) dX10_undo_42 rfl ?_
    refine Rn.aload_n dX10_undo_45 rfl rfl ?_
    refine Rn.getI dX10_undo_46 fd_X10_58_9 (by first | rfl | exact gC0 (by assumption) | exact gL0 (by assumption)) rfl ?_
    refine Rn.topI (nI r) (by exact h7) ?_
    refine Rn.imul dX10_undo_49 ?_
    refine Rn.iload_n dX10_undo_50 rfl rfl ?_
    refine Rn.iadd dX10_undo_51 ?_
    refine Rn.topI (nI (377 * r + i)) (by simp only [pk_mul, nI_add]) ?_
    refine Rn.ialdN dX10_undo_52 (by first | rfl | exact gC1 (by assumption) | exact gC2 (by assumption) | exact gC3 (by assumption) | exact gL1 (by assumption) | exact gL2 (by assumption) | exact gL3 (by assumption) | exact gL4 (by assumption) | exact gL5 (by assumption) | exact gL6 (by assumption)) ?_
    refine Rn.iastN dX10_undo_53 (by first | rfl | exact gC1 (by assumption) | exact gC2 (by assumption) | exact gC3 (by assumption) | exact gL1 (by assumption) | exact gL2 (by assumption) | exact gL3 (by assumption) | exact gL4 (by assumption) | exact gL5 (by assumption) | exact gL6 (by assumption)) ?_
    refine Rn.iincN dX10_undo_54 rfl (by decide) ?_
    refine Rn.goto 26 dX10_undo_57 (by decide) ?_
    exact Rn.hpp _ (by rw [zup_zset]; exact congrArg _ (cp_upd (fun q => J 99 (377 * r + q)) W0 i)) (ih (i + 1) (by omega))
def undoI (I : Hi) (r : Nat) : Hi := if r = 0 then zup I 94 0 (nI 0) else zset (zup (zup I 94 0 (nI 0)) 94 7 (nI (r - 1))) 95 (cp (fun q => I 99 (377 * (r - 1) + q)) (I 95) 377)
theorem ct_undo (r : Nat) (hr : r ≤ 12) (h7 : I 94 7 = nI r) : Ct G GAM mX10_undo d 0 [.ref 94] I (Rp (some (.int (bI (r ≠ 0)))) (undoI I r)) := by
  refine Ct.mk [some (.ref 94), none] ?_
  refine Rn.aload_n dX10_undo_0 rfl rfl ?_
  refine Rn.iconst (v := (nI 0)) dX10_undo_1 rfl ?_
  refine Rn.putI dX10_undo_2 fp_X10_3_9 (by first | rfl | exact gC0 (by assumption) | exact gL0 (by assumption)) rfl ?_
  refine Rn.aload_n dX10_undo_5 rfl rfl ?_
  refine Rn.getI dX10_undo_6 fd_X10_58_9 (by first | rfl | exact gC0 (by assumption) | exact gL0 (by assumption)) rfl ?_
  refine Rn.topI (nI r) (by exact h7) ?_
  refine Rn.if_neN dX10_undo_9 14 (fun h1 => ?_) (fun h1 => ?_)
  · rw [undoI, if_neg h1]
    refine Rn.aload_n dX10_undo_14 rfl rfl ?_
    refine Rn.dup dX10_undo_15 rfl ?_
    refine Rn.getI dX10_undo_16 fd_X10_58_9 (by first | rfl | exact gC0 (by assumption) | exact gL0 (by assumption)) rfl ?_
    refine Rn.topI (nI r) (by exact h7) ?_
    refine Rn.iconst (v := (nI 1)) dX10_undo_19 rfl ?_
    refine Rn.isub dX10_undo_20 ?_
    refine Rn.topI (nI (r - 1)) (by exact pk_sub (by omega)) ?_
    refine Rn.putI dX10_undo_21 fp_X10_58_9 (by first | rfl | exact gC0 (by assumption) | exact gL0 (by assumption)) rfl ?_
    refine Rn.iconst (v := (nI 0)) dX10_undo_24 rfl ?_
    refine Rn.istore_n dX10_undo_25 rfl (by decide) ?_
    refine Rn.hpp (zset (zup (zup I 94 0 (nI 0)) 94 7 (nI (r - 1))) 95 (cp (fun q => I 99 (377 * (r - 1) + q)) (I 95) 0)) (by rw [cp_0]; exact (zset_self _ 95).symm) (lp_undo G d (zup (zup I 94 0 (nI 0)) 94 7 (nI (r - 1))) (I 95) (r - 1) (by omega) rfl ?_ 377 0 rfl)
    refine Rn.iconst (v := (nI 1)) dX10_undo_60 rfl ?_
    exact Rn.zret dX10_undo_61 rfl rfl (⟨by rw [bI_t h1]; rfl, rfl⟩)
  · rw [undoI, if_pos h1]
    refine Rn.iconst (v := (nI 0)) dX10_undo_12 rfl ?_
    exact Rn.zret dX10_undo_13 rfl rfl (⟨by rw [bI_f (fun q => q h1)]; rfl, rfl⟩)
end RefH
