theorem dX10_sumOf_6 : decode cX10_sumOf 6 = .ok (.aload_n 0, 1) := by decide +kernel
theorem dX10_sumOf_7 : decode cX10_sumOf 7 = .ok (.getfield 13, 3) := by decide +kernel
theorem dX10_sumOf_10 : decode cX10_sumOf 10 = .ok (.iconst 3, 1) := by decide +kernel
theorem dX10_sumOf_11 : decode cX10_sumOf 11 = .ok (.iaload, 1) := by decide +kernel
theorem dX10_sumOf_12 : decode cX10_sumOf 12 = .ok (.iconst 1, 1) := by decide +kernel
theorem dX10_sumOf_13 : decode cX10_sumOf 13 = .ok (.if_icmp .ne 72, 3) := by decide +kernel
theorem dX10_sumOf_16 : decode cX10_sumOf 16 = .ok (.iload 6, 2) := by decide +kernel
theorem dX10_sumOf_18 : decode cX10_sumOf 18 = .ok (.aload_n 0, 1) := by decide +kernel
theorem dX10_sumOf_19 : decode cX10_sumOf 19 = .ok (.getfield 13, 3) := by decide +kernel
theorem dX10_sumOf_22 : decode cX10_sumOf 22 = .ok (.sipush 377, 3) := by decide +kernel
theorem dX10_sumOf_25 : decode cX10_sumOf 25 = .ok (.iaload, 1) := by decide +kernel
theorem dX10_sumOf_26 : decode cX10_sumOf 26 = .ok (.if_icmp .ge 59, 3) := by decide +kernel
theorem dX10_sumOf_29 : decode cX10_sumOf 29 = .ok (.aload_n 0, 1) := by decide +kernel
theorem dX10_sumOf_30 : decode cX10_sumOf 30 = .ok (.getfield 13, 3) := by decide +kernel
theorem dX10_sumOf_33 : decode cX10_sumOf 33 = .ok (.sipush 378, 3) := by decide +kernel
theorem dX10_sumOf_36 : decode cX10_sumOf 36 = .ok (.iconst 4, 1) := by decide +kernel
theorem dX10_sumOf_37 : decode cX10_sumOf 37 = .ok (.iload 6, 2) := by decide +kernel
theorem dX10_sumOf_39 : decode cX10_sumOf 39 = .ok (.imul, 1) := by decide +kernel
theorem dX10_sumOf_40 : decode cX10_sumOf 40 = .ok (.iadd, 1) := by decide +kernel
theorem dX10_sumOf_41 : decode cX10_sumOf 41 = .ok (.iaload, 1) := by decide +kernel
theorem dX10_sumOf_42 : decode cX10_sumOf 42 = .ok (.iload_n 1, 1) := by decide +kernel
theorem dX10_sumOf_43 : decode cX10_sumOf 43 = .ok (.if_icmp .ne 36, 3) := by decide +kernel
theorem dX10_sumOf_79 : decode cX10_sumOf 79 = .ok (.iinc 6 1, 3) := by decide +kernel
theorem dX10_sumOf_82 : decode cX10_sumOf 82 = .ok (.goto (-76), 3) := by decide +kernel
theorem dX10_sumOf_46 : decode cX10_sumOf 46 = .ok (.aload_n 0, 1) := by decide +kernel
theorem dX10_sumOf_47 : decode cX10_sumOf 47 = .ok (.iload 6, 2) := by decide +kernel
theorem dX10_sumOf_49 : decode cX10_sumOf 49 = .ok (.iload_n 2, 1) := by decide +kernel
theorem dX10_sumOf_50 : decode cX10_sumOf 50 = .ok (.iload_n 3, 1) := by decide +kernel
theorem dX10_sumOf_51 : decode cX10_sumOf 51 = .ok (.iload 4, 2) := by decide +kernel
theorem dX10_sumOf_53 : decode cX10_sumOf 53 = .ok (.invokevirtual 248, 3) := by decide +kernel
theorem dX10_sumOf_56 : decode cX10_sumOf 56 = .ok (.ifCond .eq 23, 3) := by decide +kernel
theorem dX10_sumOf_59 : decode cX10_sumOf 59 = .ok (.iload 5, 2) := by decide +kernel
theorem dX10_sumOf_61 : decode cX10_sumOf 61 = .ok (.aload_n 0, 1) := by decide +kernel
theorem dX10_sumOf_62 : decode cX10_sumOf 62 = .ok (.getfield 13, 3) := by decide +kernel
theorem dX10_sumOf_65 : decode cX10_sumOf 65 = .ok (.sipush 378, 3) := by decide +kernel
theorem dX10_sumOf_68 : decode cX10_sumOf 68 = .ok (.iconst 4, 1) := by decide +kernel
theorem dX10_sumOf_69 : decode cX10_sumOf 69 = .ok (.iload 6, 2) := by decide +kernel
theorem dX10_sumOf_71 : decode cX10_sumOf 71 = .ok (.imul, 1) := by decide +kernel
theorem dX10_sumOf_72 : decode cX10_sumOf 72 = .ok (.iadd, 1) := by decide +kernel
theorem dX10_sumOf_73 : decode cX10_sumOf 73 = .ok (.iconst 1, 1) := by decide +kernel
theorem dX10_sumOf_74 : decode cX10_sumOf 74 = .ok (.iadd, 1) := by decide +kernel
theorem dX10_sumOf_75 : decode cX10_sumOf 75 = .ok (.iaload, 1) := by decide +kernel
theorem dX10_sumOf_76 : decode cX10_sumOf 76 = .ok (.iadd, 1) := by decide +kernel
theorem dX10_sumOf_77 : decode cX10_sumOf 77 = .ok (.istore 5, 2) := by decide +kernel
theorem dX10_sumOf_0 : decode cX10_sumOf 0 = .ok (.iconst 0, 1) := by decide +kernel
theorem dX10_sumOf_1 : decode cX10_sumOf 1 = .ok (.istore 5, 2) := by decide +kernel
theorem dX10_sumOf_3 : decode cX10_sumOf 3 = .ok (.iconst 0, 1) := by decide +kernel
theorem dX10_sumOf_4 : decode cX10_sumOf 4 = .ok (.istore 6, 2) := by decide +kernel
theorem dX10_sumOf_85 : decode cX10_sumOf 85 = .ok (.iload 5, 2) := by decide +kernel
theorem dX10_sumOf_87 : decode cX10_sumOf 87 = .ok (.ireturn, 1) := by decide +kernel
theorem dX10_flowsBy_0 : decode cX10_flowsBy 0 = .ok (.aload_n 0, 1) := by decide +kernel
theorem dX10_flowsBy_1 : decode cX10_flowsBy 1 = .ok (.getfield 13, 3) := by decide +kernel
theorem dX10_flowsBy_4 : decode cX10_flowsBy 4 = .ok (.iconst 3, 1) := by decide +kernel
theorem dX10_flowsBy_5 : decode cX10_flowsBy 5 = .ok (.iaload, 1) := by decide +kernel
theorem dX10_flowsBy_6 : decode cX10_flowsBy 6 = .ok (.ifCond .ne 8, 3) := by decide +kernel
theorem dX10_flowsBy_14 : decode cX10_flowsBy 14 = .ok (.aload_n 0, 1) := by decide +kernel
theorem dX10_flowsBy_15 : decode cX10_flowsBy 15 = .ok (.iconst 0, 1) := by decide +kernel
theorem dX10_flowsBy_16 : decode cX10_flowsBy 16 = .ok (.iload_n 1, 1) := by decide +kernel
theorem dX10_flowsBy_17 : decode cX10_flowsBy 17 = .ok (.iload_n 2, 1) := by decide +kernel
theorem dX10_flowsBy_18 : decode cX10_flowsBy 18 = .ok (.iload_n 3, 1) := by decide +kernel
theorem dX10_flowsBy_19 : decode cX10_flowsBy 19 = .ok (.invokevirtual 252, 3) := by decide +kernel
theorem dX10_flowsBy_22 : decode cX10_flowsBy 22 = .ok (.ireturn, 1) := by decide +kernel
theorem dX10_flowsBy_9 : decode cX10_flowsBy 9 = .ok (.bipush 10, 2) := by decide +kernel
theorem dX10_flowsBy_11 : decode cX10_flowsBy 11 = .ok (.goto 11, 3) := by decide +kernel
theorem dX10_wearsBy_0 : decode cX10_wearsBy 0 = .ok (.iconst 1, 1) := by decide +kernel
theorem dX10_wearsBy_1 : decode cX10_wearsBy 1 = .ok (.aload_n 0, 1) := by decide +kernel
theorem dX10_wearsBy_2 : decode cX10_wearsBy 2 = .ok (.iconst 1, 1) := by decide +kernel
theorem dX10_wearsBy_3 : decode cX10_wearsBy 3 = .ok (.iload_n 1, 1) := by decide +kernel
theorem dX10_wearsBy_4 : decode cX10_wearsBy 4 = .ok (.iload_n 2, 1) := by decide +kernel
theorem dX10_wearsBy_5 : decode cX10_wearsBy 5 = .ok (.iconst 0, 1) := by decide +kernel
theorem dX10_wearsBy_6 : decode cX10_wearsBy 6 = .ok (.invokevirtual 252, 3) := by decide +kernel
theorem dX10_wearsBy_9 : decode cX10_wearsBy 9 = .ok (.iadd, 1) := by decide +kernel
theorem dX10_wearsBy_10 : decode cX10_wearsBy 10 = .ok (.ireturn, 1) := by decide +kernel
theorem dX10_sticksTo_0 : decode cX10_sticksTo 0 = .ok (.aload_n 0, 1) := by decide +kernel
theorem dX10_sticksTo_1 : decode cX10_sticksTo 1 = .ok (.iconst 2, 1) := by decide +kernel
theorem dX10_sticksTo_2 : decode cX10_sticksTo 2 = .ok (.iload_n 1, 1) := by decide +kernel
theorem dX10_sticksTo_3 : decode cX10_sticksTo 3 = .ok (.iload_n 2, 1) := by decide +kernel
theorem dX10_sticksTo_4 : decode cX10_sticksTo 4 = .ok (.iconst 0, 1) := by decide +kernel
theorem dX10_sticksTo_5 : decode cX10_sticksTo 5 = .ok (.invokevirtual 252, 3) := by decide +kernel
theorem dX10_sticksTo_8 : decode cX10_sticksTo 8 = .ok (.ifCond .le 7, 3) := by decide +kernel
theorem dX10_sticksTo_15 : decode cX10_sticksTo 15 = .ok (.iconst 0, 1) := by decide +kernel
theorem dX10_sticksTo_16 : decode cX10_sticksTo 16 = .ok (.ireturn, 1) := by decide +kernel
theorem dX10_sticksTo_11 : decode cX10_sticksTo 11 = .ok (.iconst 1, 1) := by decide +kernel
theorem dX10_sticksTo_12 : decode cX10_sticksTo 12 = .ok (.goto 4, 3) := by decide +kernel
theorem dX10_moreOf_0 : decode cX10_moreOf 0 = .ok (.aload_n 0, 1) := by decide +kernel
theorem dX10_moreOf_1 : decode cX10_moreOf 1 = .ok (.iload_n 2, 1) := by decide +kernel
theorem dX10_moreOf_2 : decode cX10_moreOf 2 = .ok (.iload_n 3, 1) := by decide +kernel
theorem dX10_moreOf_3 : decode cX10_moreOf 3 = .ok (.invokevirtual 71, 3) := by decide +kernel
theorem dX10_moreOf_6 : decode cX10_moreOf 6 = .ok (.aload_n 0, 1) := by decide +kernel
theorem dX10_moreOf_7 : decode cX10_moreOf 7 = .ok (.iload_n 1, 1) := by decide +kernel
theorem dX10_moreOf_8 : decode cX10_moreOf 8 = .ok (.iload_n 3, 1) := by decide +kernel
theorem dX10_moreOf_9 : decode cX10_moreOf 9 = .ok (.invokevirtual 65, 3) := by decide +kernel
theorem dX10_moreOf_12 : decode cX10_moreOf 12 = .ok (.isub, 1) := by decide +kernel
theorem dX10_moreOf_13 : decode cX10_moreOf 13 = .ok (.istore 4, 2) := by decide +kernel
theorem dX10_moreOf_15 : decode cX10_moreOf 15 = .ok (.aload_n 0, 1) := by decide +kernel
theorem dX10_moreOf_16 : decode cX10_moreOf 16 = .ok (.iload_n 1, 1) := by decide +kernel
theorem dX10_moreOf_17 : decode cX10_moreOf 17 = .ok (.iload_n 2, 1) := by decide +kernel
theorem dX10_moreOf_18 : decode cX10_moreOf 18 = .ok (.iload_n 3, 1) := by decide +kernel
theorem dX10_moreOf_19 : decode cX10_moreOf 19 = .ok (.invokevirtual 256, 3) := by decide +kernel
theorem dX10_moreOf_22 : decode cX10_moreOf 22 = .ok (.iload 4, 2) := by decide +kernel
theorem dX10_moreOf_24 : decode cX10_moreOf 24 = .ok (.invokestatic 260, 3) := by decide +kernel
theorem dX10_moreOf_27 : decode cX10_moreOf 27 = .ok (.iconst 2, 1) := by decide +kernel
theorem dX10_moreOf_28 : decode cX10_moreOf 28 = .ok (.idiv, 1) := by decide +kernel
theorem dX10_moreOf_29 : decode cX10_moreOf 29 = .ok (.invokestatic 266, 3) := by decide +kernel
theorem dX10_moreOf_32 : decode cX10_moreOf 32 = .ok (.istore 5, 2) := by decide +kernel
theorem dX10_moreOf_34 : decode cX10_moreOf 34 = .ok (.iload 4, 2) := by decide +kernel
theorem dX10_moreOf_36 : decode cX10_moreOf 36 = .ok (.ifCond .ge 9, 3) := by decide +kernel
theorem dX10_moreOf_45 : decode cX10_moreOf 45 = .ok (.iload 5, 2) := by decide +kernel
theorem dX10_moreOf_47 : decode cX10_moreOf 47 = .ok (.ireturn, 1) := by decide +kernel
theorem dX10_moreOf_39 : decode cX10_moreOf 39 = .ok (.iload 5, 2) := by decide +kernel
theorem dX10_moreOf_41 : decode cX10_moreOf 41 = .ok (.ineg, 1) := by decide +kernel
theorem dX10_moreOf_42 : decode cX10_moreOf 42 = .ok (.goto 5, 3) := by decide +kernel
theorem dX10_gainOf_0 : decode cX10_gainOf 0 = .ok (.iconst 0, 1) := by decide +kernel
theorem dX10_gainOf_1 : decode cX10_gainOf 1 = .ok (.istore_n 3, 1) := by decide +kernel
theorem dX10_gainOf_2 : decode cX10_gainOf 2 = .ok (.iconst 0, 1) := by decide +kernel
theorem dX10_gainOf_3 : decode cX10_gainOf 3 = .ok (.istore 4, 2) := by decide +kernel
theorem dX10_gainOf_5 : decode cX10_gainOf 5 = .ok (.iload 4, 2) := by decide +kernel
theorem dX10_gainOf_7 : decode cX10_gainOf 7 = .ok (.iconst 4, 1) := by decide +kernel
theorem dX10_gainOf_8 : decode cX10_gainOf 8 = .ok (.if_icmp .ge 20, 3) := by decide +kernel
theorem dX10_gainOf_11 : decode cX10_gainOf 11 = .ok (.iload_n 3, 1) := by decide +kernel
theorem dX10_gainOf_12 : decode cX10_gainOf 12 = .ok (.aload_n 0, 1) := by decide +kernel
theorem dX10_gainOf_13 : decode cX10_gainOf 13 = .ok (.iload_n 1, 1) := by decide +kernel
theorem dX10_gainOf_14 : decode cX10_gainOf 14 = .ok (.iload_n 2, 1) := by decide +kernel
theorem dX10_gainOf_15 : decode cX10_gainOf 15 = .ok (.iload 4, 2) := by decide +kernel
theorem dX10_gainOf_17 : decode cX10_gainOf 17 = .ok (.invokevirtual 269, 3) := by decide +kernel
theorem dX10_gainOf_20 : decode cX10_gainOf 20 = .ok (.iadd, 1) := by decide +kernel
theorem dX10_gainOf_21 : decode cX10_gainOf 21 = .ok (.istore_n 3, 1) := by decide +kernel
theorem dX10_gainOf_22 : decode cX10_gainOf 22 = .ok (.iinc 4 1, 3) := by decide +kernel
theorem dX10_gainOf_25 : decode cX10_gainOf 25 = .ok (.goto (-20), 3) := by decide +kernel
theorem dX10_gainOf_28 : decode cX10_gainOf 28 = .ok (.iload_n 3, 1) := by decide +kernel
theorem dX10_gainOf_29 : decode cX10_gainOf 29 = .ok (.ireturn, 1) := by decide +kernel
def Re (v : Option Value) (I : Hi) (a : Nat) : Rs → Hi → Prop := fun o J => o = .inl v ∧ ∃ g, J = zset I a g
theorem Rn.callVe {G : Gx} {Ga : List Shp} {Y : Ym} {kx : Kx} {d b pc pc' : Nat} {ls : List (Option Value)} {st : List Value} {I : Hi} {C : String} {T : u_T} {N ci idx a n q : Nat} {fl : List (Option (Option Nat))} {As rest : List Value} {y : Ym} {v : Option Value} (hd : decode Y.2.1 pc = .ok (.invokevirtual idx, 3)) (hM : zMv Y.1.cls idx C y n) (hG : Ga[a]? = some (.inl (ci, fl))) (hC : vwCl[ci]? = some (C, T, N))
    (hst : st = As.reverse ++ .ref a :: rest) (hn : As.length = n) (hr : (rest.map fun v => v.category).sum ≤ 8) (hct : Ct G Ga y d 0 (.ref a :: As) I (Re v I q))
    (k : ∀ g, Rn G Ga Y kx (d + 1) b pc' ls (v.toList ++ rest) (zset I q g)) (hp : pc + 3 = pc' := by rfl) : Rn G Ga Y kx (d + 1) b pc ls st I :=
  Rn.callV hd hM hG hC hst hn hr hct (fun E J h => nomatch h.1) (fun w K h => by obtain ⟨h1, g, h2⟩ := h; cases h1; cases h2; exact k g) hp
/-- the law's lines: L of them; line n goes over the steps bg n .. en n -/
def LawOK (W : Nat → Int32) (op bg en : Nat → Nat) (L : Nat) : Prop := L ≤ 12 ∧ W 377 = nI L ∧ ∀ n, n < L → W (378 + 4 * n + 2) = nI (bg n) ∧ W (378 + 4 * n + 3) = nI (en n) ∧ bg n ≤ en n ∧ en n ≤ 400 ∧ okS op (en n - bg n) (bg n) 0 ∧ ∀ i, i < en n → W (426 + 2 * i) = nI (op i)
def LawR (W : Nat → Int32) (op bg en : Nat → Nat) (L : Nat) : Prop := W 3 = nI 0 ∨ (W 3 = nI 1 ∧ LawOK W op bg en L)
abbrev lineH (W : Nat → Int32) (op bg en : Nat → Nat) (w t s n : Nat) : Prop := evN W w t s op (en n - bg n) (bg n) [] = [] ∨ (evN W w t s op (en n - bg n) (bg n) []).getLastD 0 = nI 1
def sumN (W : Nat → Int32) (op bg en : Nat → Nat) (kind : Int32) (w t s : Nat) : Nat → Int32
  | 0 => nI 0
  | n + 1 => if W (378 + 4 * n) = kind ∧ lineH W op bg en w t s n then sumN W op bg en kind w t s n + W (378 + 4 * n + 1) else sumN W op bg en kind w t s n
def sumV (W : Nat → Int32) (op bg en : Nat → Nat) (L : Nat) (kind : Int32) (w t s : Nat) : Int32 := if W 3 = nI 1 then sumN W op bg en kind w t s L else nI 0
section RefD
variable (G : Gx) (d : Nat) (I : Hi) (op bg en : Nat → Nat) (L : Nat)
theorem lp_sumOf {kx : Kx} {b : Nat} (kind : Int32) (w t s : Nat) (hw : w < 8) (ht : t < 8) (hs : s < 4) (h3 : I 95 3 = nI 1) (hL : LawOK (I 95) op bg en L)
    (k : ∀ g, Rn G GAM mX10_sumOf kx (d + 4) b 85 [some (.ref 94), some (.int kind), some (.int (nI w)), some (.int (nI t)), some (.int (nI s)), some (.int (sumN (I 95) op bg en kind w t s L)), some (.int (nI L))] [] (zset I 102 g)) :
    ∀ (n i : Nat) (g : Nat → Int32), i + n = L → Rn G GAM mX10_sumOf kx (d + 4) b 6 [some (.ref 94), some (.int kind), some (.int (nI w)), some (.int (nI t)), some (.int (nI s)), some (.int (sumN (I 95) op bg en kind w t s i)), some (.int (nI i))] [] (zset I 102 g) := by
  have hL12 := hL.1
  intro n
  induction n with
  | zero =>
    intro i g hi
    obtain rfl : i = L := by omega
    refine Rn.aload_n dX10_sumOf_6 rfl rfl ?_
    refine Rn.getR dX10_sumOf_7 fd_X10_13_9 (by first | rfl | exact gC0 (by assumption) | exact gL0 (by assumption)) rfl ?_
    refine Rn.iconst (v := (nI 3)) dX10_sumOf_10 rfl ?_
    refine Rn.ialdN dX10_sumOf_11 (by first | rfl | exact gC1 (by assumption) | exact gC2 (by assumption) | exact gC3 (by assumption) | exact gL1 (by assumption) | exact gL2 (by assumption) | exact gL3 (by assumption) | exact gL4 (by assumption) | exact gL5 (by assumption) | exact gL6 (by assumption)) ?_
    refine Rn.topI (nI 1) (by exact h3) ?_
    refine Rn.iconst (v := (nI 1)) dX10_sumOf_12 rfl ?_
    refine Rn.icmp_neN dX10_sumOf_13 85 (fun h9 => by exfalso; omega) (fun _ => ?_)
    refine Rn.iload dX10_sumOf_16 rfl ?_
    refine Rn.aload_n dX10_sumOf_18 rfl rfl ?_
    refine Rn.getR dX10_sumOf_19 fd_X10_13_9 (by first | rfl | exact gC0 (by assumption) | exact gL0 (by assumption)) rfl ?_
    refine Rn.sipush (v := (nI 377)) dX10_sumOf_22 rfl ?_
    refine Rn.ialdN dX10_sumOf_25 (by first | rfl | exact gC1 (by assumption) | exact gC2 (by assumption) | exact gC3 (by assumption) | exact gL1 (by assumption) | exact gL2 (by assumption) | exact gL3 (by assumption) | exact gL4 (by assumption) | exact gL5 (by assumption) | exact gL6 (by assumption)) ?_
    refine Rn.topI (nI i) (by exact hL.2.1) ?_
    refine Rn.icmp_geN dX10_sumOf_26 85 (fun _ => ?_) (fun h9 => by exfalso; omega)
    exact k g
  | succ n ih =>
    intro i g hi
    have hl := hL.2.2 i (by omega)
    refine Rn.aload_n dX10_sumOf_6 rfl rfl ?_
    refine Rn.getR dX10_sumOf_7 fd_X10_13_9 (by first | rfl | exact gC0 (by assumption) | exact gL0 (by assumption)) rfl ?_
    refine Rn.iconst (v := (nI 3)) dX10_sumOf_10 rfl ?_
    refine Rn.ialdN dX10_sumOf_11 (by first | rfl | exact gC1 (by assumption) | exact gC2 (by assumption) | exact gC3 (by assumption) | exact gL1 (by assumption) | exact gL2 (by assumption) | exact gL3 (by assumption) | exact gL4 (by assumption) | exact gL5 (by assumption) | exact gL6 (by assumption)) ?_
    refine Rn.topI (nI 1) (by exact h3) ?_
    refine Rn.iconst (v := (nI 1)) dX10_sumOf_12 rfl ?_
    refine Rn.icmp_neN dX10_sumOf_13 85 (fun h9 => by exfalso; omega) (fun _ => ?_)
    refine Rn.iload dX10_sumOf_16 rfl ?_
    refine Rn.aload_n dX10_sumOf_18 rfl rfl ?_
    refine Rn.getR dX10_sumOf_19 fd_X10_13_9 (by first | rfl | exact gC0 (by assumption) | exact gL0 (by assumption)) rfl ?_
    refine Rn.sipush (v := (nI 377)) dX10_sumOf_22 rfl ?_
    refine Rn.ialdN dX10_sumOf_25 (by first | rfl | exact gC1 (by assumption) | exact gC2 (by assumption) | exact gC3 (by assumption) | exact gL1 (by assumption) | exact gL2 (by assumption) | exact gL3 (by assumption) | exact gL4 (by assumption) | exact gL5 (by assumption) | exact gL6 (by assumption)) ?_
    refine Rn.topI (nI L) (by exact hL.2.1) ?_
    refine Rn.icmp_geN dX10_sumOf_26 85 (fun h9 => by exfalso; omega) (fun _ => ?_)
    refine Rn.aload_n dX10_sumOf_29 rfl rfl ?_
    refine Rn.getR dX10_sumOf_30 fd_X10_13_9 (by first | rfl | exact gC0 (by assumption) | exact gL0 (by assumption)) rfl ?_
    refine Rn.sipush (v := (nI 378)) dX10_sumOf_33 rfl ?_
    refine Rn.iconst (v := (nI 4)) dX10_sumOf_36 rfl ?_
    refine Rn.iload dX10_sumOf_37 rfl ?_
    refine Rn.imul dX10_sumOf_39 ?_
    refine Rn.iadd dX10_sumOf_40 ?_
    refine Rn.topI (nI (378 + 4 * i)) (by first | rfl | (simp only [nI_add, pk_mul, nI_1]; done) | (simp only [nI_add, pk_mul, nI_1]; congr 1; omega)) ?_
    refine Rn.ialdN dX10_sumOf_41 (by first | rfl | exact gC1 (by assumption) | exact gC2 (by assumption) | exact gC3 (by assumption) | exact gL1 (by assumption) | exact gL2 (by assumption) | exact gL3 (by assumption) | exact gL4 (by assumption) | exact gL5 (by assumption) | exact gL6 (by assumption)) ?_
    refine Rn.iload_n dX10_sumOf_42 rfl rfl ?_
    refine Rn.icmp_ne (tgt := 79) dX10_sumOf_43 (by decide) (fun h4 => ?_) (fun h4 => ?_)
    · have e1 : sumN (I 95) op bg en kind w t s (i + 1) = sumN (I 95) op bg en kind w t s i := by
        simp only [sumN]; exact if_neg (fun q => h4 q.1)
      refine Rn.iincN dX10_sumOf_79 rfl (by decide) ?_
      refine Rn.goto 6 dX10_sumOf_82 (by decide) ?_
      rw [← e1]
      exact ih (i + 1) g (by omega)
    · refine Rn.aload_n dX10_sumOf_46 rfl rfl ?_
      refine Rn.iload dX10_sumOf_47 rfl ?_
      refine Rn.iload_n dX10_sumOf_49 rfl rfl ?_
      refine Rn.iload_n dX10_sumOf_50 rfl rfl ?_
      refine Rn.iload dX10_sumOf_51 rfl ?_
      refine Rn.callVe (As := [_, _, _, _]) dX10_sumOf_53 mv_X10_248 (by first | rfl | exact gC0 (by assumption) | exact gL0 (by assumption)) rfl rfl rfl (Nat.le_of_ble_eq_true rfl) (ct_holdsLine G _ _ _ _ _ _ _ _ _ (by omega) (by omega) (by omega) (by omega) hl.2.2.1 hl.2.2.2.1 hl.1 hl.2.1 hl.2.2.2.2.2 hl.2.2.2.2.1) (fun g2 => ?_)
      refine Rn.hpp _ (zset_zset _ _ _ _) ?_
      refine Rn.if_eqB dX10_sumOf_56 79 (fun h5 => ?_) (fun h5 => ?_)
      · have e1 : sumN (I 95) op bg en kind w t s (i + 1) = sumN (I 95) op bg en kind w t s i := by
          simp only [sumN]; exact if_neg (fun q => h5 q.2)
        refine Rn.iincN dX10_sumOf_79 rfl (by decide) ?_
        refine Rn.goto 6 dX10_sumOf_82 (by decide) ?_
        rw [← e1]
        exact ih (i + 1) g2 (by omega)
      · have e1 : sumN (I 95) op bg en kind w t s (i + 1) = sumN (I 95) op bg en kind w t s i + I 95 (378 + 4 * i + 1) := by
          simp only [sumN]; exact if_pos ⟨h4, h5⟩
        refine Rn.iload dX10_sumOf_59 rfl ?_
        refine Rn.aload_n dX10_sumOf_61 rfl rfl ?_
        refine Rn.getR dX10_sumOf_62 fd_X10_13_9 (by first | rfl | exact gC0 (by assumption) | exact gL0 (by assumption)) rfl ?_
        refine Rn.sipush (v := (nI 378)) dX10_sumOf_65 rfl ?_
        refine Rn.iconst (v := (nI 4)) dX10_sumOf_68 rfl ?_
        refine Rn.iload dX10_sumOf_69 rfl ?_
        refine Rn.imul dX10_sumOf_71 ?_
        refine Rn.iadd dX10_sumOf_72 ?_
        refine Rn.iconst (v := (nI 1)) dX10_sumOf_73 rfl ?_
        refine Rn.iadd dX10_sumOf_74 ?_
        refine Rn.topI (nI (378 + 4 * i + 1)) (by first | rfl | (simp only [nI_add, pk_mul, nI_1]; done) | (simp only [nI_add, pk_mul, nI_1]; congr 1; omega)) ?_
        refine Rn.ialdN dX10_sumOf_75 (by first | rfl | exact gC1 (by assumption) | exact gC2 (by assumption) | exact gC3 (by assumption) | exact gL1 (by assumption) | exact gL2 (by assumption) | exact gL3 (by assumption) | exact gL4 (by assumption) | exact gL5 (by assumption) | exact gL6 (by assumption)) ?_
        refine Rn.iadd dX10_sumOf_76 ?_
        refine Rn.istore dX10_sumOf_77 (by decide) ?_
        refine Rn.iincN dX10_sumOf_79 rfl (by decide) ?_
        refine Rn.goto 6 dX10_sumOf_82 (by decide) ?_
        show Rn G GAM mX10_sumOf kx (d + 4) b 6 [some (.ref 94), some (.int kind), some (.int (nI w)), some (.int (nI t)), some (.int (nI s)), some (.int (sumN (I 95) op bg en kind w t s i + I 95 (378 + 4 * i + 1))), some (.int (nI (i + 1)))] [] (zset I 102 g2)
        rw [← e1]
        exact ih (i + 1) g2 (by omega)
theorem ct_sumOf (kind : Int32) (w t s : Nat) (hw : w < 8) (ht : t < 8) (hs : s < 4) (hR : LawR (I 95) op bg en L) : Ct G GAM mX10_sumOf (d + 4) 0 [.ref 94, .int kind, .int (nI w), .int (nI t), .int (nI s)] I (Re (some (.int (sumV (I 95) op bg en L kind w t s))) I 102) := by
  refine Ct.mk [some (.ref 94), some (.int kind), some (.int (nI w)), some (.int (nI t)), some (.int (nI s)), none, none] ?_
  refine Rn.iconst (v := (nI 0)) dX10_sumOf_0 rfl ?_
  refine Rn.istore dX10_sumOf_1 (by decide) ?_
  refine Rn.iconst (v := (nI 0)) dX10_sumOf_3 rfl ?_
  refine Rn.istore dX10_sumOf_4 (by decide) ?_
  rcases hR with h3 | ⟨h3, hL⟩
  · refine Rn.aload_n dX10_sumOf_6 rfl rfl ?_
    refine Rn.getR dX10_sumOf_7 fd_X10_13_9 (by first | rfl | exact gC0 (by assumption) | exact gL0 (by assumption)) rfl ?_
    refine Rn.iconst (v := (nI 3)) dX10_sumOf_10 rfl ?_
    refine Rn.ialdN dX10_sumOf_11 (by first | rfl | exact gC1 (by assumption) | exact gC2 (by assumption) | exact gC3 (by assumption) | exact gL1 (by assumption) | exact gL2 (by assumption) | exact gL3 (by assumption) | exact gL4 (by assumption) | exact gL5 (by assumption) | exact gL6 (by assumption)) ?_
    refine Rn.topI (nI 0) (by exact h3) ?_
    refine Rn.iconst (v := (nI 1)) dX10_sumOf_12 rfl ?_
    refine Rn.icmp_neN dX10_sumOf_13 85 (fun _ => ?_) (fun h9 => by exfalso; omega)
    refine Rn.iload dX10_sumOf_85 rfl ?_
    exact Rn.iret dX10_sumOf_87 rfl (⟨by rw [sumV, if_neg (by rw [h3]; decide)], I 102, (zset_self I 102).symm⟩)
  · refine Rn.hpp _ (zset_self I 102).symm (lp_sumOf G d I op bg en L kind w t s hw ht hs h3 hL ?_ L 0 _ (by omega))
    intro g
    refine Rn.iload dX10_sumOf_85 rfl ?_
    exact Rn.iret dX10_sumOf_87 rfl (⟨by rw [sumV, if_pos h3], g, rfl⟩)
def flowV (W : Nat → Int32) (op bg en : Nat → Nat) (L w t s : Nat) : Int32 := if W 3 = nI 0 then nI 10 else sumV W op bg en L (nI 0) w t s
theorem ct_flowsBy (w t s : Nat) (hw : w < 8) (ht : t < 8) (hs : s < 4) (hR : LawR (I 95) op bg en L) : Ct G GAM mX10_flowsBy (d + 5) 0 [.ref 94, .int (nI w), .int (nI t), .int (nI s)] I (Re (some (.int (flowV (I 95) op bg en L w t s))) I 102) := by
  refine Ct.mk [some (.ref 94), some (.int (nI w)), some (.int (nI t)), some (.int (nI s))] ?_
  refine Rn.aload_n dX10_flowsBy_0 rfl rfl ?_
  refine Rn.getR dX10_flowsBy_1 fd_X10_13_9 (by first | rfl | exact gC0 (by assumption) | exact gL0 (by assumption)) rfl ?_
  refine Rn.iconst (v := (nI 3)) dX10_flowsBy_4 rfl ?_
  refine Rn.ialdN dX10_flowsBy_5 (by first | rfl | exact gC1 (by assumption) | exact gC2 (by assumption) | exact gC3 (by assumption) | exact gL1 (by assumption) | exact gL2 (by assumption) | exact gL3 (by assumption) | exact gL4 (by assumption) | exact gL5 (by assumption) | exact gL6 (by assumption)) ?_
  refine Rn.if_ne (tgt := 14) dX10_flowsBy_6 (by decide) (fun h1 => ?_) (fun h1 => ?_)
  · refine Rn.aload_n dX10_flowsBy_14 rfl rfl ?_
    refine Rn.iconst (v := (nI 0)) dX10_flowsBy_15 rfl ?_
    refine Rn.iload_n dX10_flowsBy_16 rfl rfl ?_
    refine Rn.iload_n dX10_flowsBy_17 rfl rfl ?_
    refine Rn.iload_n dX10_flowsBy_18 rfl rfl ?_
    refine Rn.callVe (As := [_, _, _, _]) dX10_flowsBy_19 mv_X10_252 (by first | rfl | exact gC0 (by assumption) | exact gL0 (by assumption)) rfl rfl rfl (Nat.le_of_ble_eq_true rfl) (ct_sumOf G _ _ op bg en L _ _ _ _ (by omega) (by omega) (by omega) hR) (fun g => ?_)
    exact Rn.iret dX10_flowsBy_22 rfl (⟨by rw [flowV, if_neg (show ¬ I 95 3 = nI 0 from h1)], g, rfl⟩)
  · refine Rn.bipush (v := (nI 10)) dX10_flowsBy_9 rfl ?_
    refine Rn.goto 22 dX10_flowsBy_11 (by decide) ?_
    exact Rn.iret dX10_flowsBy_22 rfl (⟨by rw [flowV, if_pos (show I 95 3 = nI 0 from h1)], I 102, (zset_self I 102).symm⟩)
theorem ct_wearsBy (w t : Nat) (hw : w < 8) (ht : t < 8) (hR : LawR (I 95) op bg en L) : Ct G GAM mX10_wearsBy (d + 5) 0 [.ref 94, .int (nI w), .int (nI t)] I (Re (some (.int (nI 1 + sumV (I 95) op bg en L (nI 1) w t 0))) I 102) := by
  refine Ct.mk [some (.ref 94), some (.int (nI w)), some (.int (nI t))] ?_
  refine Rn.iconst (v := (nI 1)) dX10_wearsBy_0 rfl ?_
  refine Rn.aload_n dX10_wearsBy_1 rfl rfl ?_
  refine Rn.iconst (v := (nI 1)) dX10_wearsBy_2 rfl ?_
  refine Rn.iload_n dX10_wearsBy_3 rfl rfl ?_
  refine Rn.iload_n dX10_wearsBy_4 rfl rfl ?_
  refine Rn.iconst (v := (nI 0)) dX10_wearsBy_5 rfl ?_
  refine Rn.callVe (As := [_, _, _, _]) dX10_wearsBy_6 mv_X10_252 (by first | rfl | exact gC0 (by assumption) | exact gL0 (by assumption)) rfl rfl rfl (Nat.le_of_ble_eq_true rfl) (ct_sumOf G _ _ op bg en L _ _ _ _ (by omega) (by omega) (by omega) hR) (fun g => ?_)
  refine Rn.iadd dX10_wearsBy_9 ?_
  exact Rn.iret dX10_wearsBy_10 rfl (⟨rfl, g, rfl⟩)
theorem ct_sticksTo (w t : Nat) (hw : w < 8) (ht : t < 8) (hR : LawR (I 95) op bg en L) : Ct G GAM mX10_sticksTo (d + 5) 0 [.ref 94, .int (nI w), .int (nI t)] I (Re (some (.int (bI (0 < sumV (I 95) op bg en L (nI 2) w t 0)))) I 102) := by
  refine Ct.mk [some (.ref 94), some (.int (nI w)), some (.int (nI t))] ?_
  refine Rn.aload_n dX10_sticksTo_0 rfl rfl ?_
  refine Rn.iconst (v := (nI 2)) dX10_sticksTo_1 rfl ?_
  refine Rn.iload_n dX10_sticksTo_2 rfl rfl ?_
  refine Rn.iload_n dX10_sticksTo_3 rfl rfl ?_
  refine Rn.iconst (v := (nI 0)) dX10_sticksTo_4 rfl ?_
  refine Rn.callVe (As := [_, _, _, _]) dX10_sticksTo_5 mv_X10_252 (by first | rfl | exact gC0 (by assumption) | exact gL0 (by assumption)) rfl rfl rfl (Nat.le_of_ble_eq_true rfl) (ct_sumOf G _ _ op bg en L _ _ _ _ (by omega) (by omega) (by omega) hR) (fun g => ?_)
  refine Rn.if_le (tgt := 15) dX10_sticksTo_8 (by decide) (fun h1 => ?_) (fun h1 => ?_)
  · refine Rn.iconst (v := (nI 0)) dX10_sticksTo_15 rfl ?_
    exact Rn.zret dX10_sticksTo_16 rfl rfl (⟨by rw [bI_f (Int32.not_lt.mpr h1)]; rfl, g, rfl⟩)
  · refine Rn.iconst (v := (nI 1)) dX10_sticksTo_11 rfl ?_
    refine Rn.goto 16 dX10_sticksTo_12 (by decide) ?_
    exact Rn.zret dX10_sticksTo_16 rfl rfl (⟨by rw [bI_t (Int32.not_le.mp h1)]; rfl, g, rfl⟩)
def moreV (W : Nat → Int32) (op bg en : Nat → Nat) (L w t s : Nat) : Int32 :=
  if W (65 + 9 * t + s) - W (9 + 7 * w + s) < 0 then - imin (flowV W op bg en L w t s) (iabs (W (65 + 9 * t + s) - W (9 + 7 * w + s)) / nI 2) else imin (flowV W op bg en L w t s) (iabs (W (65 + 9 * t + s) - W (9 + 7 * w + s)) / nI 2)
theorem ct_moreOf (w t s : Nat) (hw : w < 8) (ht : t < 8) (hs : s < 4) (hR : LawR (I 95) op bg en L) : Ct G GAM mX10_moreOf (d + 6) 0 [.ref 94, .int (nI w), .int (nI t), .int (nI s)] I (Re (some (.int (moreV (I 95) op bg en L w t s))) I 102) := by
  refine Ct.mk [some (.ref 94), some (.int (nI w)), some (.int (nI t)), some (.int (nI s)), none, none] ?_
  refine Rn.aload_n dX10_moreOf_0 rfl rfl ?_
  refine Rn.iload_n dX10_moreOf_1 rfl rfl ?_
  refine Rn.iload_n dX10_moreOf_2 rfl rfl ?_
  refine Rn.callVp (As := [_, _]) dX10_moreOf_3 mv_X10_71 (by first | rfl | exact gC0 (by assumption) | exact gL0 (by assumption)) rfl rfl rfl (Nat.le_of_ble_eq_true rfl) (ct_ofThing G _ _ _ _ (by omega)) ?_
  refine Rn.aload_n dX10_moreOf_6 rfl rfl ?_
  refine Rn.iload_n dX10_moreOf_7 rfl rfl ?_
  refine Rn.iload_n dX10_moreOf_8 rfl rfl ?_
  refine Rn.callVp (As := [_, _]) dX10_moreOf_9 mv_X10_65 (by first | rfl | exact gC0 (by assumption) | exact gL0 (by assumption)) rfl rfl rfl (Nat.le_of_ble_eq_true rfl) (ct_of G _ _ _ _ (by omega)) ?_
  refine Rn.isub dX10_moreOf_12 ?_
  refine Rn.istore dX10_moreOf_13 (by decide) ?_
  refine Rn.aload_n dX10_moreOf_15 rfl rfl ?_
  refine Rn.iload_n dX10_moreOf_16 rfl rfl ?_
  refine Rn.iload_n dX10_moreOf_17 rfl rfl ?_
  refine Rn.iload_n dX10_moreOf_18 rfl rfl ?_
  refine Rn.callVe (As := [_, _, _]) dX10_moreOf_19 mv_X10_256 (by first | rfl | exact gC0 (by assumption) | exact gL0 (by assumption)) rfl rfl rfl (Nat.le_of_ble_eq_true rfl) (ct_flowsBy G _ _ op bg en L _ _ _ (by omega) (by omega) (by omega) hR) (fun g => ?_)
  refine Rn.iload dX10_moreOf_22 rfl ?_
  refine Rn.mabs dX10_moreOf_24 ms_X10_260 (Nat.le_of_ble_eq_true rfl) ?_
  refine Rn.iconst (v := (nI 2)) dX10_moreOf_27 rfl ?_
  refine Rn.idiv dX10_moreOf_28 (by decide) ?_
  refine Rn.mmin dX10_moreOf_29 ms_X10_266 (Nat.le_of_ble_eq_true rfl) ?_
  refine Rn.istore dX10_moreOf_32 (by decide) ?_
  refine Rn.iload dX10_moreOf_34 rfl ?_
  refine Rn.if_ge (tgt := 45) dX10_moreOf_36 (by decide) (fun h1 => ?_) (fun h1 => ?_)
  · refine Rn.iload dX10_moreOf_45 rfl ?_
    exact Rn.iret dX10_moreOf_47 rfl (⟨by rw [moreV, if_neg (Int32.not_lt.mpr h1)], g, rfl⟩)
  · refine Rn.iload dX10_moreOf_39 rfl ?_
    refine Rn.ineg dX10_moreOf_41 ?_
    refine Rn.goto 47 dX10_moreOf_42 (by decide) ?_
    exact Rn.iret dX10_moreOf_47 rfl (⟨by rw [moreV, if_pos (Int32.not_le.mp h1)], g, rfl⟩)
def gainV (W : Nat → Int32) (op bg en : Nat → Nat) (L w t : Nat) : Int32 := moreV W op bg en L w t 0 + moreV W op bg en L w t 1 + moreV W op bg en L w t 2 + moreV W op bg en L w t 3
theorem ct_gainOf (w t : Nat) (hw : w < 8) (ht : t < 8) (hR : LawR (I 95) op bg en L) : Ct G GAM mX10_gainOf (d + 7) 0 [.ref 94, .int (nI w), .int (nI t)] I (Re (some (.int (gainV (I 95) op bg en L w t))) I 102) := by
  refine Ct.mk [some (.ref 94), some (.int (nI w)), some (.int (nI t)), none, none] ?_
  refine Rn.iconst (v := (nI 0)) dX10_gainOf_0 rfl ?_
  refine Rn.istore_n dX10_gainOf_1 rfl (by decide) ?_
  refine Rn.iconst (v := (nI 0)) dX10_gainOf_2 rfl ?_
  refine Rn.istore dX10_gainOf_3 (by decide) ?_
  refine Rn.iload dX10_gainOf_5 rfl ?_
  refine Rn.iconst (v := (nI 4)) dX10_gainOf_7 rfl ?_
  refine Rn.icmp_geN dX10_gainOf_8 28 (fun h9 => by exfalso; omega) (fun _ => ?_)
  refine Rn.iload_n dX10_gainOf_11 rfl rfl ?_
  refine Rn.aload_n dX10_gainOf_12 rfl rfl ?_
  refine Rn.iload_n dX10_gainOf_13 rfl rfl ?_
  refine Rn.iload_n dX10_gainOf_14 rfl rfl ?_
  refine Rn.iload dX10_gainOf_15 rfl ?_
  refine Rn.callVe (As := [_, _, _]) dX10_gainOf_17 mv_X10_269 (by first | rfl | exact gC0 (by assumption) | exact gL0 (by assumption)) rfl rfl rfl (Nat.le_of_ble_eq_true rfl) (ct_moreOf G _ _ op bg en L _ _ _ (by omega) (by omega) (by omega) hR) (fun g => ?_)
  refine Rn.iadd dX10_gainOf_20 ?_
  refine Rn.istore_n dX10_gainOf_21 rfl (by decide) ?_
  refine Rn.iincN dX10_gainOf_22 rfl (by decide) ?_
  refine Rn.goto 5 dX10_gainOf_25 (by decide) ?_
  refine Rn.iload dX10_gainOf_5 rfl ?_
  refine Rn.iconst (v := (nI 4)) dX10_gainOf_7 rfl ?_
  refine Rn.icmp_geN dX10_gainOf_8 28 (fun h9 => by exfalso; omega) (fun _ => ?_)
  refine Rn.iload_n dX10_gainOf_11 rfl rfl ?_
  refine Rn.aload_n dX10_gainOf_12 rfl rfl ?_
  refine Rn.iload_n dX10_gainOf_13 rfl rfl ?_
  refine Rn.iload_n dX10_gainOf_14 rfl rfl ?_
  refine Rn.iload dX10_gainOf_15 rfl ?_
  refine Rn.callVe (As := [_, _, _]) dX10_gainOf_17 mv_X10_269 (by first | rfl | exact gC0 (by assumption) | exact gL0 (by assumption)) rfl rfl rfl (Nat.le_of_ble_eq_true rfl) (ct_moreOf G _ _ op bg en L _ _ _ (by omega) (by omega) (by omega) hR) (fun g => ?_)
  refine Rn.iadd dX10_gainOf_20 ?_
  refine Rn.istore_n dX10_gainOf_21 rfl (by decide) ?_
  refine Rn.iincN dX10_gainOf_22 rfl (by decide) ?_
  refine Rn.goto 5 dX10_gainOf_25 (by decide) ?_
  refine Rn.iload dX10_gainOf_5 rfl ?_
  refine Rn.iconst (v := (nI 4)) dX10_gainOf_7 rfl ?_
  refine Rn.icmp_geN dX10_gainOf_8 28 (fun h9 => by exfalso; omega) (fun _ => ?_)
  refine Rn.iload_n dX10_gainOf_11 rfl rfl ?_
  refine Rn.aload_n dX10_gainOf_12 rfl rfl ?_
  refine Rn.iload_n dX10_gainOf_13 rfl rfl ?_
  refine Rn.iload_n dX10_gainOf_14 rfl rfl ?_
  refine Rn.iload dX10_gainOf_15 rfl ?_
  refine Rn.callVe (As := [_, _, _]) dX10_gainOf_17 mv_X10_269 (by first | rfl | exact gC0 (by assumption) | exact gL0 (by assumption)) rfl rfl rfl (Nat.le_of_ble_eq_true rfl) (ct_moreOf G _ _ op bg en L _ _ _ (by omega) (by omega) (by omega) hR) (fun g => ?_)
  refine Rn.iadd dX10_gainOf_20 ?_
  refine Rn.istore_n dX10_gainOf_21 rfl (by decide) ?_
  refine Rn.iincN dX10_gainOf_22 rfl (by decide) ?_
  refine Rn.goto 5 dX10_gainOf_25 (by decide) ?_
  refine Rn.iload dX10_gainOf_5 rfl ?_
  refine Rn.iconst (v := (nI 4)) dX10_gainOf_7 rfl ?_
  refine Rn.icmp_geN dX10_gainOf_8 28 (fun h9 => by exfalso; omega) (fun _ => ?_)
  refine Rn.iload_n dX10_gainOf_11 rfl rfl ?_
  refine Rn.aload_n dX10_gainOf_12 rfl rfl ?_
  refine Rn.iload_n dX10_gainOf_13 rfl rfl ?_
  refine Rn.iload_n dX10_gainOf_14 rfl rfl ?_
  refine Rn.iload dX10_gainOf_15 rfl ?_
  refine Rn.callVe (As := [_, _, _]) dX10_gainOf_17 mv_X10_269 (by first | rfl | exact gC0 (by assumption) | exact gL0 (by assumption)) rfl rfl rfl (Nat.le_of_ble_eq_true rfl) (ct_moreOf G _ _ op bg en L _ _ _ (by omega) (by omega) (by omega) hR) (fun g => ?_)
  refine Rn.iadd dX10_gainOf_20 ?_
  refine Rn.istore_n dX10_gainOf_21 rfl (by decide) ?_
  refine Rn.iincN dX10_gainOf_22 rfl (by decide) ?_
  refine Rn.goto 5 dX10_gainOf_25 (by decide) ?_
  refine Rn.iload dX10_gainOf_5 rfl ?_
  refine Rn.iconst (v := (nI 4)) dX10_gainOf_7 rfl ?_
  refine Rn.icmp_geN dX10_gainOf_8 28 (fun _ => ?_) (fun h9 => by exfalso; omega)
  refine Rn.iload_n dX10_gainOf_28 rfl rfl ?_
  exact Rn.iret dX10_gainOf_29 rfl (⟨by rw [show nI 0 = 0 from rfl, Int32.zero_add]; rfl, g, by simp only [zset_zset]⟩)
end RefD
