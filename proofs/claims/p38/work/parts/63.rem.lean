theorem dX10_remembers_11 : decode cX10_remembers 11 = .ok (.iload_n 1, 1) := by decide +kernel
theorem dX10_remembers_12 : decode cX10_remembers 12 = .ok (.sipush 4147, 3) := by decide +kernel
theorem dX10_remembers_15 : decode cX10_remembers 15 = .ok (.if_icmp .ge 25, 3) := by decide +kernel
theorem dX10_remembers_18 : decode cX10_remembers 18 = .ok (.aload_n 0, 1) := by decide +kernel
theorem dX10_remembers_19 : decode cX10_remembers 19 = .ok (.getfield 26, 3) := by decide +kernel
theorem dX10_remembers_22 : decode cX10_remembers 22 = .ok (.iload_n 1, 1) := by decide +kernel
theorem dX10_remembers_23 : decode cX10_remembers 23 = .ok (.aload_n 0, 1) := by decide +kernel
theorem dX10_remembers_24 : decode cX10_remembers 24 = .ok (.getfield 26, 3) := by decide +kernel
theorem dX10_remembers_27 : decode cX10_remembers 27 = .ok (.iload_n 1, 1) := by decide +kernel
theorem dX10_remembers_28 : decode cX10_remembers 28 = .ok (.sipush 377, 3) := by decide +kernel
theorem dX10_remembers_31 : decode cX10_remembers 31 = .ok (.iadd, 1) := by decide +kernel
theorem dX10_remembers_32 : decode cX10_remembers 32 = .ok (.iaload, 1) := by decide +kernel
theorem dX10_remembers_33 : decode cX10_remembers 33 = .ok (.iastore, 1) := by decide +kernel
theorem dX10_remembers_34 : decode cX10_remembers 34 = .ok (.iinc 1 1, 3) := by decide +kernel
theorem dX10_remembers_37 : decode cX10_remembers 37 = .ok (.goto (-26), 3) := by decide +kernel
theorem dX10_remembers_55 : decode cX10_remembers 55 = .ok (.iload_n 1, 1) := by decide +kernel
theorem dX10_remembers_56 : decode cX10_remembers 56 = .ok (.sipush 377, 3) := by decide +kernel
theorem dX10_remembers_59 : decode cX10_remembers 59 = .ok (.if_icmp .ge 32, 3) := by decide +kernel
theorem dX10_remembers_62 : decode cX10_remembers 62 = .ok (.aload_n 0, 1) := by decide +kernel
theorem dX10_remembers_63 : decode cX10_remembers 63 = .ok (.getfield 26, 3) := by decide +kernel
theorem dX10_remembers_66 : decode cX10_remembers 66 = .ok (.sipush 377, 3) := by decide +kernel
theorem dX10_remembers_69 : decode cX10_remembers 69 = .ok (.aload_n 0, 1) := by decide +kernel
theorem dX10_remembers_70 : decode cX10_remembers 70 = .ok (.getfield 58, 3) := by decide +kernel
theorem dX10_remembers_73 : decode cX10_remembers 73 = .ok (.iconst 1, 1) := by decide +kernel
theorem dX10_remembers_74 : decode cX10_remembers 74 = .ok (.isub, 1) := by decide +kernel
theorem dX10_remembers_75 : decode cX10_remembers 75 = .ok (.imul, 1) := by decide +kernel
theorem dX10_remembers_76 : decode cX10_remembers 76 = .ok (.iload_n 1, 1) := by decide +kernel
theorem dX10_remembers_77 : decode cX10_remembers 77 = .ok (.iadd, 1) := by decide +kernel
theorem dX10_remembers_78 : decode cX10_remembers 78 = .ok (.aload_n 0, 1) := by decide +kernel
theorem dX10_remembers_79 : decode cX10_remembers 79 = .ok (.getfield 13, 3) := by decide +kernel
theorem dX10_remembers_82 : decode cX10_remembers 82 = .ok (.iload_n 1, 1) := by decide +kernel
theorem dX10_remembers_83 : decode cX10_remembers 83 = .ok (.iaload, 1) := by decide +kernel
theorem dX10_remembers_84 : decode cX10_remembers 84 = .ok (.iastore, 1) := by decide +kernel
theorem dX10_remembers_85 : decode cX10_remembers 85 = .ok (.iinc 1 1, 3) := by decide +kernel
theorem dX10_remembers_88 : decode cX10_remembers 88 = .ok (.goto (-33), 3) := by decide +kernel
theorem dX10_remembers_0 : decode cX10_remembers 0 = .ok (.aload_n 0, 1) := by decide +kernel
theorem dX10_remembers_1 : decode cX10_remembers 1 = .ok (.getfield 58, 3) := by decide +kernel
theorem dX10_remembers_4 : decode cX10_remembers 4 = .ok (.bipush 12, 2) := by decide +kernel
theorem dX10_remembers_6 : decode cX10_remembers 6 = .ok (.if_icmp .ne 37, 3) := by decide +kernel
theorem dX10_remembers_43 : decode cX10_remembers 43 = .ok (.aload_n 0, 1) := by decide +kernel
theorem dX10_remembers_44 : decode cX10_remembers 44 = .ok (.dup, 1) := by decide +kernel
theorem dX10_remembers_45 : decode cX10_remembers 45 = .ok (.getfield 58, 3) := by decide +kernel
theorem dX10_remembers_48 : decode cX10_remembers 48 = .ok (.iconst 1, 1) := by decide +kernel
theorem dX10_remembers_49 : decode cX10_remembers 49 = .ok (.iadd, 1) := by decide +kernel
theorem dX10_remembers_50 : decode cX10_remembers 50 = .ok (.putfield 58, 3) := by decide +kernel
theorem dX10_remembers_53 : decode cX10_remembers 53 = .ok (.iconst 0, 1) := by decide +kernel
theorem dX10_remembers_54 : decode cX10_remembers 54 = .ok (.istore_n 1, 1) := by decide +kernel
theorem dX10_remembers_91 : decode cX10_remembers 91 = .ok (.return_, 1) := by decide +kernel
theorem dX10_remembers_9 : decode cX10_remembers 9 = .ok (.iconst 0, 1) := by decide +kernel
theorem dX10_remembers_10 : decode cX10_remembers 10 = .ok (.istore_n 1, 1) := by decide +kernel
theorem dX10_remembers_40 : decode cX10_remembers 40 = .ok (.goto 13, 3) := by decide +kernel
theorem dX10_undo_26 : decode cX10_undo 26 = .ok (.iload_n 1, 1) := by decide +kernel
theorem dX10_undo_27 : decode cX10_undo 27 = .ok (.sipush 377, 3) := by decide +kernel
theorem dX10_undo_30 : decode cX10_undo 30 = .ok (.if_icmp .ge 30, 3) := by decide +kernel
theorem dX10_undo_33 : decode cX10_undo 33 = .ok (.aload_n 0, 1) := by decide +kernel
theorem dX10_undo_34 : decode cX10_undo 34 = .ok (.getfield 13, 3) := by decide +kernel
theorem dX10_undo_37 : decode cX10_undo 37 = .ok (.iload_n 1, 1) := by decide +kernel
theorem dX10_undo_38 : decode cX10_undo 38 = .ok (.aload_n 0, 1) := by decide +kernel
theorem dX10_undo_39 : decode cX10_undo 39 = .ok (.getfield 26, 3) := by decide +kernel
theorem dX10_undo_42 : decode cX10_undo 42 = .ok (.sipush 377, 3) := by decide +kernel
theorem dX10_undo_45 : decode cX10_undo 45 = .ok (.aload_n 0, 1) := by decide +kernel
theorem dX10_undo_46 : decode cX10_undo 46 = .ok (.getfield 58, 3) := by decide +kernel
theorem dX10_undo_49 : decode cX10_undo 49 = .ok (.imul, 1) := by decide +kernel
theorem dX10_undo_50 : decode cX10_undo 50 = .ok (.iload_n 1, 1) := by decide +kernel
theorem dX10_undo_51 : decode cX10_undo 51 = .ok (.iadd, 1) := by decide +kernel
theorem dX10_undo_52 : decode cX10_undo 52 = .ok (.iaload, 1) := by decide +kernel
theorem dX10_undo_53 : decode cX10_undo 53 = .ok (.iastore, 1) := by decide +kernel
theorem dX10_undo_54 : decode cX10_undo 54 = .ok (.iinc 1 1, 3) := by decide +kernel
theorem dX10_undo_57 : decode cX10_undo 57 = .ok (.goto (-31), 3) := by decide +kernel
theorem dX10_undo_0 : decode cX10_undo 0 = .ok (.aload_n 0, 1) := by decide +kernel
theorem dX10_undo_1 : decode cX10_undo 1 = .ok (.iconst 0, 1) := by decide +kernel
theorem dX10_undo_2 : decode cX10_undo 2 = .ok (.putfield 3, 3) := by decide +kernel
theorem dX10_undo_5 : decode cX10_undo 5 = .ok (.aload_n 0, 1) := by decide +kernel
theorem dX10_undo_6 : decode cX10_undo 6 = .ok (.getfield 58, 3) := by decide +kernel
theorem dX10_undo_9 : decode cX10_undo 9 = .ok (.ifCond .ne 5, 3) := by decide +kernel
theorem dX10_undo_14 : decode cX10_undo 14 = .ok (.aload_n 0, 1) := by decide +kernel
theorem dX10_undo_15 : decode cX10_undo 15 = .ok (.dup, 1) := by decide +kernel
theorem dX10_undo_16 : decode cX10_undo 16 = .ok (.getfield 58, 3) := by decide +kernel
theorem dX10_undo_19 : decode cX10_undo 19 = .ok (.iconst 1, 1) := by decide +kernel
theorem dX10_undo_20 : decode cX10_undo 20 = .ok (.isub, 1) := by decide +kernel
theorem dX10_undo_21 : decode cX10_undo 21 = .ok (.putfield 58, 3) := by decide +kernel
theorem dX10_undo_24 : decode cX10_undo 24 = .ok (.iconst 0, 1) := by decide +kernel
theorem dX10_undo_25 : decode cX10_undo 25 = .ok (.istore_n 1, 1) := by decide +kernel
theorem dX10_undo_60 : decode cX10_undo 60 = .ok (.iconst 1, 1) := by decide +kernel
theorem dX10_undo_61 : decode cX10_undo 61 = .ok (.ireturn, 1) := by decide +kernel
theorem dX10_undo_12 : decode cX10_undo 12 = .ok (.iconst 0, 1) := by decide +kernel
theorem dX10_undo_13 : decode cX10_undo 13 = .ok (.ireturn, 1) := by decide +kernel
def shA (A : Nat → Int32) (i : Nat) : Nat → Int32 := fun k => if k < i then A (k + 377) else A k
def puA (A W : Nat → Int32) (r i : Nat) : Nat → Int32 := fun j => if 377 * r ≤ j ∧ j < 377 * r + i then W (j - 377 * r) else A j
theorem shA_upd (A : Nat → Int32) (i : Nat) : upd (shA A i) i (shA A i (i + 377)) = shA A (i + 1) := by
  funext k
  simp only [upd, shA]
  by_cases e : k = i
  · subst e
    rw [if_pos rfl, if_neg (by omega), if_pos (by omega)]
  · rw [if_neg e]
    by_cases q : k < i
    · rw [if_pos q, if_pos (by omega)]
    · rw [if_neg q, if_neg (by omega)]
theorem puA_upd (A W : Nat → Int32) (r i : Nat) : upd (puA A W r i) (377 * r + i) (W i) = puA A W r (i + 1) := by
  funext k
  simp only [upd, puA]
  by_cases e : k = 377 * r + i
  · subst e
    rw [if_pos rfl, if_pos (by omega)]
    congr 1
    omega
  · rw [if_neg e]
    by_cases q : 377 * r ≤ k ∧ k < 377 * r + i
    · rw [if_pos q, if_pos (by omega)]
    · rw [if_neg q, if_neg (by omega)]
theorem shA_0 (A : Nat → Int32) : shA A 0 = A := by funext k; simp [shA]
theorem puA_0 (A W : Nat → Int32) (r : Nat) : puA A W r 0 = A := by funext k; simp only [puA]; exact if_neg (by omega)
def remA (A W : Nat → Int32) (r : Nat) : Nat → Int32 := if r = 12 then puA (shA A 4147) W 11 377 else puA A W r 377
def remR (r : Nat) : Nat := if r = 12 then 12 else r + 1
theorem zup_same {I : Hi} {a j : Nat} {v : Int32} (h : I a j = v) : zup I a j v = I := by
  subst h
  funext k
  simp only [zup, zset]
  by_cases e : k = a
  · subst e
    rw [if_pos rfl]
    funext q
    simp only [upd]
    by_cases e2 : q = j
    · subst e2; simp
    · simp [e2]
  · simp [e]
section RefH
variable (G : Gx) (d : Nat) (I : Hi)
theorem lp_rem1 {kx : Kx} {b : Nat} (J : Hi) (A0 : Nat → Int32) (k : Rn G GAM mX10_remembers kx d b 40 [some (.ref 94), some (.int (nI 4147))] [] (zset J 99 (shA A0 4147))) : ∀ n i : Nat, i + n = 4147 → Rn G GAM mX10_remembers kx d b 11 [some (.ref 94), some (.int (nI i))] [] (zset J 99 (shA A0 i)) := by
  intro n
  induction n with
  | zero =>
    intro i hi
    obtain rfl : i = 4147 := by omega
    refine Rn.iload_n dX10_remembers_11 rfl rfl ?_
    refine Rn.sipush (v := (nI 4147)) dX10_remembers_12 rfl ?_
    refine Rn.icmp_geN dX10_remembers_15 40 (fun _ => ?_) (fun h9 => by exfalso; omega)
    exact k
  | succ n ih =>
    intro i hi
    refine Rn.iload_n dX10_remembers_11 rfl rfl ?_
    refine Rn.sipush (v := (nI 4147)) dX10_remembers_12 rfl ?_
    refine Rn.icmp_geN dX10_remembers_15 40 (fun h9 => by exfalso; omega) (fun _ => ?_)
    refine Rn.aload_n dX10_remembers_18 rfl rfl ?_
    refine Rn.getR dX10_remembers_19 fd_X10_26_9 (by first | rfl | exact gC0 (by assumption) | exact gL0 (by assumption)) rfl ?_
    refine Rn.iload_n dX10_remembers_22 rfl rfl ?_
    refine Rn.aload_n dX10_remembers_23 rfl rfl ?_
    refine Rn.getR dX10_remembers_24 fd_X10_26_9 (by first | rfl | exact gC0 (by assumption) | exact gL0 (by assumption)) rfl ?_
    refine Rn.iload_n dX10_remembers_27 rfl rfl ?_
    refine Rn.sipush (v := (nI 377)) dX10_remembers_28 rfl ?_
    refine Rn.iadd dX10_remembers_31 ?_
    refine Rn.topI (nI (i + 377)) (by first | rfl | (simp only [nI_add, pk_mul, nI_1]; done) | (simp only [nI_add, pk_mul, nI_1]; congr 1; omega)) ?_
    refine Rn.ialdN dX10_remembers_32 (by first | rfl | exact gC1 (by assumption) | exact gC2 (by assumption) | exact gC3 (by assumption) | exact gL1 (by assumption) | exact gL2 (by assumption) | exact gL3 (by assumption) | exact gL4 (by assumption) | exact gL5 (by assumption) | exact gL6 (by assumption)) ?_
    refine Rn.iastN dX10_remembers_33 (by first | rfl | exact gC1 (by assumption) | exact gC2 (by assumption) | exact gC3 (by assumption) | exact gL1 (by assumption) | exact gL2 (by assumption) | exact gL3 (by assumption) | exact gL4 (by assumption) | exact gL5 (by assumption) | exact gL6 (by assumption)) ?_
    refine Rn.iincN dX10_remembers_34 rfl (by decide) ?_
    refine Rn.goto 11 dX10_remembers_37 (by decide) ?_
    exact Rn.hpp _ (by rw [zup_zset]; exact congrArg _ (shA_upd A0 i)) (ih (i + 1) (by omega))
theorem lp_rem2 {kx : Kx} {b : Nat} (J : Hi) (A0 : Nat → Int32) (r : Nat) (hr : r < 12) (h7 : J 94 7 = nI (r + 1)) (k : Rn G GAM mX10_remembers kx d b 91 [some (.ref 94), some (.int (nI 377))] [] (zset J 99 (puA A0 (J 95) r 377))) : ∀ n i : Nat, i + n = 377 → Rn G GAM mX10_remembers kx d b 55 [some (.ref 94), some (.int (nI i))] [] (zset J 99 (puA A0 (J 95) r i)) := by
  intro n
  induction n with
  | zero =>
    intro i hi
    obtain rfl : i = 377 := by omega
    refine Rn.iload_n dX10_remembers_55 rfl rfl ?_
    refine Rn.sipush (v := (nI 377)) dX10_remembers_56 rfl ?_
    refine Rn.icmp_geN dX10_remembers_59 91 (fun _ => ?_) (fun h9 => by exfalso; omega)
    exact k
  | succ n ih =>
    intro i hi
    refine Rn.iload_n dX10_remembers_55 rfl rfl ?_
    refine Rn.sipush (v := (nI 377)) dX10_remembers_56 rfl ?_
    refine Rn.icmp_geN dX10_remembers_59 91 (fun h9 => by exfalso; omega) (fun _ => ?_)
    refine Rn.aload_n dX10_remembers_62 rfl rfl ?_
    refine Rn.getR dX10_remembers_63 fd_X10_26_9 (by first | rfl | exact gC0 (by assumption) | exact gL0 (by assumption)) rfl ?_
    refine Rn.sipush (v := (nI 377)) dX10_remembers_66 rfl ?_
    refine Rn.aload_n dX10_remembers_69 rfl rfl ?_
    refine Rn.getI dX10_remembers_70 fd_X10_58_9 (by first | rfl | exact gC0 (by assumption) | exact gL0 (by assumption)) rfl ?_
    refine Rn.topI (nI (r + 1)) (by exact h7) ?_
    refine Rn.iconst (v := (nI 1)) dX10_remembers_73 rfl ?_
    refine Rn.isub dX10_remembers_74 ?_
    refine Rn.topI (nI r) (by exact pk_sub (by omega)) ?_
    refine Rn.imul dX10_remembers_75 ?_
    refine Rn.iload_n dX10_remembers_76 rfl rfl ?_
    refine Rn.iadd dX10_remembers_77 ?_
    refine Rn.topI (nI (377 * r + i)) (by simp only [pk_mul, nI_add]) ?_
    refine Rn.aload_n dX10_remembers_78 rfl rfl ?_
    refine Rn.getR dX10_remembers_79 fd_X10_13_9 (by first | rfl | exact gC0 (by assumption) | exact gL0 (by assumption)) rfl ?_
    refine Rn.iload_n dX10_remembers_82 rfl rfl ?_
    refine Rn.ialdN dX10_remembers_83 (by first | rfl | exact gC1 (by assumption) | exact gC2 (by assumption) | exact gC3 (by assumption) | exact gL1 (by assumption) | exact gL2 (by assumption) | exact gL3 (by assumption) | exact gL4 (by assumption) | exact gL5 (by assumption) | exact gL6 (by assumption)) ?_
    refine Rn.iastN dX10_remembers_84 (by first | rfl | exact gC1 (by assumption) | exact gC2 (by assumption) | exact gC3 (by assumption) | exact gL1 (by assumption) | exact gL2 (by assumption) | exact gL3 (by assumption) | exact gL4 (by assumption) | exact gL5 (by assumption) | exact gL6 (by assumption)) ?_
    refine Rn.iincN dX10_remembers_85 rfl (by decide) ?_
    refine Rn.goto 55 dX10_remembers_88 (by decide) ?_
    exact Rn.hpp _ (by rw [zup_zset]; exact congrArg _ (puA_upd A0 (J 95) r i)) (ih (i + 1) (by omega))
theorem ct_remembers (r : Nat) (hr : r ≤ 12) (h7 : I 94 7 = nI r) : Ct G GAM mX10_remembers d 0 [.ref 94] I (Rp none (zset (zup I 94 7 (nI (remR r))) 99 (remA (I 99) (I 95) r))) := by
  refine Ct.mk [some (.ref 94), none] ?_
  refine Rn.aload_n dX10_remembers_0 rfl rfl ?_
  refine Rn.getI dX10_remembers_1 fd_X10_58_9 (by first | rfl | exact gC0 (by assumption) | exact gL0 (by assumption)) rfl ?_
  refine Rn.topI (nI r) (by exact h7) ?_
  refine Rn.bipush (v := (nI 12)) dX10_remembers_4 rfl ?_
  refine Rn.icmp_neN dX10_remembers_6 43 (fun h1 => ?_) (fun h1 => ?_)
  · rw [remA, if_neg h1, remR, if_neg h1]
    refine Rn.aload_n dX10_remembers_43 rfl rfl ?_
    refine Rn.dup dX10_remembers_44 rfl ?_
    refine Rn.getI dX10_remembers_45 fd_X10_58_9 (by first | rfl | exact gC0 (by assumption) | exact gL0 (by assumption)) rfl ?_
    refine Rn.topI (nI r) (by exact h7) ?_
    refine Rn.iconst (v := (nI 1)) dX10_remembers_48 rfl ?_
    refine Rn.iadd dX10_remembers_49 ?_
    refine Rn.topI (nI (r + 1)) (by exact nI_1 r) ?_
    refine Rn.putI dX10_remembers_50 fp_X10_58_9 (by first | rfl | exact gC0 (by assumption) | exact gL0 (by assumption)) rfl ?_
    refine Rn.iconst (v := (nI 0)) dX10_remembers_53 rfl ?_
    refine Rn.istore_n dX10_remembers_54 rfl (by decide) ?_
    refine Rn.hpp (zset (zup I 94 7 (nI (r + 1))) 99 (puA (I 99) (I 95) r 0)) (by rw [puA_0]; exact (zset_self _ 99).symm) (lp_rem2 G d (zup I 94 7 (nI (r + 1))) (I 99) r (by omega) rfl ?_ 377 0 rfl)
    exact Rn.vret dX10_remembers_91 rfl (⟨rfl, rfl⟩)
  · subst h1
    rw [remA, if_pos rfl, remR, if_pos rfl, zup_same h7]
    refine Rn.iconst (v := (nI 0)) dX10_remembers_9 rfl ?_
    refine Rn.istore_n dX10_remembers_10 rfl (by decide) ?_
    refine Rn.hpp (zset I 99 (shA (I 99) 0)) (by rw [shA_0]; exact (zset_self _ 99).symm) (lp_rem1 G d I (I 99) ?_ 4147 0 rfl)
    refine Rn.goto 53 dX10_remembers_40 (by decide) ?_
    refine Rn.iconst (v := (nI 0)) dX10_remembers_53 rfl ?_
    refine Rn.istore_n dX10_remembers_54 rfl (by decide) ?_
    refine Rn.hpp (zset (zset I 99 (shA (I 99) 4147)) 99 (puA (shA (I 99) 4147) (I 95) 11 0)) (by rw [puA_0]; exact (zset_zset _ _ _ _).symm) (lp_rem2 G d (zset I 99 (shA (I 99) 4147)) (shA (I 99) 4147) 11 (by omega) h7 ?_ 377 0 rfl)
    exact Rn.vret dX10_remembers_91 rfl (⟨rfl, by rw [zset_zset]; rfl⟩)
theorem lp_undo {kx : Kx} {b : Nat} (J : Hi) (W0 : Nat → Int32) (r : Nat) (hr : r < 12) (h7 : J 94 7 = nI r) (k : Rn G GAM mX10_undo kx d b 60 [some (.ref 94), some (.int (nI 377))] [] (zset J 95 (cp (fun q => J 99 (377 * r + q)) W0 377))) : ∀ n i : Nat, i + n = 377 → Rn G GAM mX10_undo kx d b 26 [some (.ref 94), some (.int (nI i))] [] (zset J 95 (cp (fun q => J 99 (377 * r + q)) W0 i)) := by
  intro n
  induction n with
  | zero =>
    intro i hi
    obtain rfl : i = 377 := by omega
    refine Rn.iload_n dX10_undo_26 rfl rfl ?_
    refine Rn.sipush (v := (nI 377)) dX10_undo_27 rfl ?_
    refine Rn.icmp_geN dX10_undo_30 60 (fun _ => ?_) (fun h9 => by exfalso; omega)
    exact k
  | succ n ih =>
    intro i hi
    refine Rn.iload_n dX10_undo_26 rfl rfl ?_
    refine Rn.sipush (v := (nI 377)) dX10_undo_27 rfl ?_
    refine Rn.icmp_geN dX10_undo_30 60 (fun h9 => by exfalso; omega) (fun _ => ?_)
    refine Rn.aload_n dX10_undo_33 rfl rfl ?_
    refine Rn.getR dX10_undo_34 fd_X10_13_9 (by first | rfl | exact gC0 (by assumption) | exact gL0 (by assumption)) rfl ?_
    refine Rn.iload_n dX10_undo_37 rfl rfl ?_
    refine Rn.aload_n dX10_undo_38 rfl rfl ?_
    refine Rn.getR dX10_undo_39 fd_X10_26_9 (by first | rfl | exact gC0 (by assumption) | exact gL0 (by assumption)) rfl ?_
    refine Rn.sipush (v := (nI 377)) dX10_undo_42 rfl ?_
    refine Rn.aload_n dX10_undo_45 rfl rfl ?_
    refine Rn.getI dX10_undo_46 fd_X10_58_9 (by first | rfl | exact gC0 (by assumption) | exact gL0 (by assumption)) rfl ?_
    refine Rn.topI (nI r) (by exact h7) ?_
    refine Rn.imul dX10_undo_49 ?_
    refine Rn.iload_n dX10_undo_50 rfl rfl ?_
    refine Rn.iadd dX10_undo_51 ?_
    refine Rn.topI (nI (377 * r + i)) (by simp only [pk_mul, nI_add]) ?_
    refine Rn.ialdN dX10_undo_52 (by first | rfl | exact gC1 (by assumption) | exact gC2 (by assumption) | exact gC3 (by assumption) | exact gL1 (by assumption) | exact gL2 (by assumption) | exact gL3 (by assumption) | exact gL4 (by assumption) | exact gL5 (by assumption) | exact gL6 (by assumption)) ?_
    refine Rn.iastN dX10_undo_53 (by first | rfl | exact gC1 (by assumption) | exact gC2 (by assumption) | exact gC3 (by assumption) | exact gL1 (by assumption) | exact gL2 (by assumption) | exact gL3 (by assumption) | exact gL4 (by assumption) | exact gL5 (by assumption) | exact gL6 (by assumption)) ?_
    refine Rn.iincN dX10_undo_54 rfl (by decide) ?_
    refine Rn.goto 26 dX10_undo_57 (by decide) ?_
    exact Rn.hpp _ (by rw [zup_zset]; exact congrArg _ (cp_upd (fun q => J 99 (377 * r + q)) W0 i)) (ih (i + 1) (by omega))
def undoI (I : Hi) (r : Nat) : Hi := if r = 0 then zup I 94 0 (nI 0) else zset (zup (zup I 94 0 (nI 0)) 94 7 (nI (r - 1))) 95 (cp (fun q => I 99 (377 * (r - 1) + q)) (I 95) 377)
theorem ct_undo (r : Nat) (hr : r ≤ 12) (h7 : I 94 7 = nI r) : Ct G GAM mX10_undo d 0 [.ref 94] I (Rp (some (.int (bI (r ≠ 0)))) (undoI I r)) := by
  refine Ct.mk [some (.ref 94), none] ?_
  refine Rn.aload_n dX10_undo_0 rfl rfl ?_
  refine Rn.iconst (v := (nI 0)) dX10_undo_1 rfl ?_
  refine Rn.putI dX10_undo_2 fp_X10_3_9 (by first | rfl | exact gC0 (by assumption) | exact gL0 (by assumption)) rfl ?_
  refine Rn.aload_n dX10_undo_5 rfl rfl ?_
  refine Rn.getI dX10_undo_6 fd_X10_58_9 (by first | rfl | exact gC0 (by assumption) | exact gL0 (by assumption)) rfl ?_
  refine Rn.topI (nI r) (by exact h7) ?_
  refine Rn.if_neN dX10_undo_9 14 (fun h1 => ?_) (fun h1 => ?_)
  · rw [undoI, if_neg h1]
    refine Rn.aload_n dX10_undo_14 rfl rfl ?_
    refine Rn.dup dX10_undo_15 rfl ?_
    refine Rn.getI dX10_undo_16 fd_X10_58_9 (by first | rfl | exact gC0 (by assumption) | exact gL0 (by assumption)) rfl ?_
    refine Rn.topI (nI r) (by exact h7) ?_
    refine Rn.iconst (v := (nI 1)) dX10_undo_19 rfl ?_
    refine Rn.isub dX10_undo_20 ?_
    refine Rn.topI (nI (r - 1)) (by exact pk_sub (by omega)) ?_
    refine Rn.putI dX10_undo_21 fp_X10_58_9 (by first | rfl | exact gC0 (by assumption) | exact gL0 (by assumption)) rfl ?_
    refine Rn.iconst (v := (nI 0)) dX10_undo_24 rfl ?_
    refine Rn.istore_n dX10_undo_25 rfl (by decide) ?_
    refine Rn.hpp (zset (zup (zup I 94 0 (nI 0)) 94 7 (nI (r - 1))) 95 (cp (fun q => I 99 (377 * (r - 1) + q)) (I 95) 0)) (by rw [cp_0]; exact (zset_self _ 95).symm) (lp_undo G d (zup (zup I 94 0 (nI 0)) 94 7 (nI (r - 1))) (I 95) (r - 1) (by omega) rfl ?_ 377 0 rfl)
    refine Rn.iconst (v := (nI 1)) dX10_undo_60 rfl ?_
    exact Rn.zret dX10_undo_61 rfl rfl (⟨by rw [bI_t h1]; rfl, rfl⟩)
  · rw [undoI, if_pos h1]
    refine Rn.iconst (v := (nI 0)) dX10_undo_12 rfl ?_
    exact Rn.zret dX10_undo_13 rfl rfl (⟨by rw [bI_f (fun q => q h1)]; rfl, rfl⟩)
end RefH
