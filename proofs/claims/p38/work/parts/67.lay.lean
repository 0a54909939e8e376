theorem dJ6_bitCount_0f7a4_0 : decode cJ6_bitCount_0f7a4 0 = .ok (.iload_n 0, 1) := by decide +kernel
theorem dJ6_bitCount_0f7a4_1 : decode cJ6_bitCount_0f7a4 1 = .ok (.iload_n 0, 1) := by decide +kernel
theorem dJ6_bitCount_0f7a4_2 : decode cJ6_bitCount_0f7a4 2 = .ok (.iconst 1, 1) := by decide +kernel
theorem dJ6_bitCount_0f7a4_3 : decode cJ6_bitCount_0f7a4 3 = .ok (.iushr, 1) := by decide +kernel
theorem dJ6_bitCount_0f7a4_4 : decode cJ6_bitCount_0f7a4 4 = .ok (.ldc_w 265, 3) := by decide +kernel
theorem dJ6_bitCount_0f7a4_7 : decode cJ6_bitCount_0f7a4 7 = .ok (.iand, 1) := by decide +kernel
theorem dJ6_bitCount_0f7a4_8 : decode cJ6_bitCount_0f7a4 8 = .ok (.isub, 1) := by decide +kernel
theorem dJ6_bitCount_0f7a4_9 : decode cJ6_bitCount_0f7a4 9 = .ok (.istore_n 0, 1) := by decide +kernel
theorem dJ6_bitCount_0f7a4_10 : decode cJ6_bitCount_0f7a4 10 = .ok (.iload_n 0, 1) := by decide +kernel
theorem dJ6_bitCount_0f7a4_11 : decode cJ6_bitCount_0f7a4 11 = .ok (.ldc_w 266, 3) := by decide +kernel
theorem dJ6_bitCount_0f7a4_14 : decode cJ6_bitCount_0f7a4 14 = .ok (.iand, 1) := by decide +kernel
theorem dJ6_bitCount_0f7a4_15 : decode cJ6_bitCount_0f7a4 15 = .ok (.iload_n 0, 1) := by decide +kernel
theorem dJ6_bitCount_0f7a4_16 : decode cJ6_bitCount_0f7a4 16 = .ok (.iconst 2, 1) := by decide +kernel
theorem dJ6_bitCount_0f7a4_17 : decode cJ6_bitCount_0f7a4 17 = .ok (.iushr, 1) := by decide +kernel
theorem dJ6_bitCount_0f7a4_18 : decode cJ6_bitCount_0f7a4 18 = .ok (.ldc_w 266, 3) := by decide +kernel
theorem dJ6_bitCount_0f7a4_21 : decode cJ6_bitCount_0f7a4 21 = .ok (.iand, 1) := by decide +kernel
theorem dJ6_bitCount_0f7a4_22 : decode cJ6_bitCount_0f7a4 22 = .ok (.iadd, 1) := by decide +kernel
theorem dJ6_bitCount_0f7a4_23 : decode cJ6_bitCount_0f7a4 23 = .ok (.istore_n 0, 1) := by decide +kernel
theorem dJ6_bitCount_0f7a4_24 : decode cJ6_bitCount_0f7a4 24 = .ok (.iload_n 0, 1) := by decide +kernel
theorem dJ6_bitCount_0f7a4_25 : decode cJ6_bitCount_0f7a4 25 = .ok (.iload_n 0, 1) := by decide +kernel
theorem dJ6_bitCount_0f7a4_26 : decode cJ6_bitCount_0f7a4 26 = .ok (.iconst 4, 1) := by decide +kernel
theorem dJ6_bitCount_0f7a4_27 : decode cJ6_bitCount_0f7a4 27 = .ok (.iushr, 1) := by decide +kernel
theorem dJ6_bitCount_0f7a4_28 : decode cJ6_bitCount_0f7a4 28 = .ok (.iadd, 1) := by decide +kernel
theorem dJ6_bitCount_0f7a4_29 : decode cJ6_bitCount_0f7a4 29 = .ok (.ldc_w 267, 3) := by decide +kernel
theorem dJ6_bitCount_0f7a4_32 : decode cJ6_bitCount_0f7a4 32 = .ok (.iand, 1) := by decide +kernel
theorem dJ6_bitCount_0f7a4_33 : decode cJ6_bitCount_0f7a4 33 = .ok (.istore_n 0, 1) := by decide +kernel
theorem dJ6_bitCount_0f7a4_34 : decode cJ6_bitCount_0f7a4 34 = .ok (.iload_n 0, 1) := by decide +kernel
theorem dJ6_bitCount_0f7a4_35 : decode cJ6_bitCount_0f7a4 35 = .ok (.iload_n 0, 1) := by decide +kernel
theorem dJ6_bitCount_0f7a4_36 : decode cJ6_bitCount_0f7a4 36 = .ok (.bipush 8, 2) := by decide +kernel
theorem dJ6_bitCount_0f7a4_38 : decode cJ6_bitCount_0f7a4 38 = .ok (.iushr, 1) := by decide +kernel
theorem dJ6_bitCount_0f7a4_39 : decode cJ6_bitCount_0f7a4 39 = .ok (.iadd, 1) := by decide +kernel
theorem dJ6_bitCount_0f7a4_40 : decode cJ6_bitCount_0f7a4 40 = .ok (.istore_n 0, 1) := by decide +kernel
theorem dJ6_bitCount_0f7a4_41 : decode cJ6_bitCount_0f7a4 41 = .ok (.iload_n 0, 1) := by decide +kernel
theorem dJ6_bitCount_0f7a4_42 : decode cJ6_bitCount_0f7a4 42 = .ok (.iload_n 0, 1) := by decide +kernel
theorem dJ6_bitCount_0f7a4_43 : decode cJ6_bitCount_0f7a4 43 = .ok (.bipush 16, 2) := by decide +kernel
theorem dJ6_bitCount_0f7a4_45 : decode cJ6_bitCount_0f7a4 45 = .ok (.iushr, 1) := by decide +kernel
theorem dJ6_bitCount_0f7a4_46 : decode cJ6_bitCount_0f7a4 46 = .ok (.iadd, 1) := by decide +kernel
theorem dJ6_bitCount_0f7a4_47 : decode cJ6_bitCount_0f7a4 47 = .ok (.istore_n 0, 1) := by decide +kernel
theorem dJ6_bitCount_0f7a4_48 : decode cJ6_bitCount_0f7a4 48 = .ok (.iload_n 0, 1) := by decide +kernel
theorem dJ6_bitCount_0f7a4_49 : decode cJ6_bitCount_0f7a4 49 = .ok (.bipush 63, 2) := by decide +kernel
theorem dJ6_bitCount_0f7a4_51 : decode cJ6_bitCount_0f7a4 51 = .ok (.iand, 1) := by decide +kernel
theorem dJ6_bitCount_0f7a4_52 : decode cJ6_bitCount_0f7a4 52 = .ok (.ireturn, 1) := by decide +kernel
theorem dX10_ordersOf_0 : decode cX10_ordersOf 0 = .ok (.iconst 1, 1) := by decide +kernel
theorem dX10_ordersOf_1 : decode cX10_ordersOf 1 = .ok (.istore_n 1, 1) := by decide +kernel
theorem dX10_ordersOf_2 : decode cX10_ordersOf 2 = .ok (.iconst 2, 1) := by decide +kernel
theorem dX10_ordersOf_3 : decode cX10_ordersOf 3 = .ok (.istore_n 2, 1) := by decide +kernel
theorem dX10_ordersOf_4 : decode cX10_ordersOf 4 = .ok (.iload_n 2, 1) := by decide +kernel
theorem dX10_ordersOf_5 : decode cX10_ordersOf 5 = .ok (.iload_n 0, 1) := by decide +kernel
theorem dX10_ordersOf_6 : decode cX10_ordersOf 6 = .ok (.if_icmp .gt 13, 3) := by decide +kernel
theorem dX10_ordersOf_19 : decode cX10_ordersOf 19 = .ok (.iload_n 1, 1) := by decide +kernel
theorem dX10_ordersOf_20 : decode cX10_ordersOf 20 = .ok (.ireturn, 1) := by decide +kernel
theorem dX10_ordersOf_9 : decode cX10_ordersOf 9 = .ok (.iload_n 1, 1) := by decide +kernel
theorem dX10_ordersOf_10 : decode cX10_ordersOf 10 = .ok (.iload_n 2, 1) := by decide +kernel
theorem dX10_ordersOf_11 : decode cX10_ordersOf 11 = .ok (.imul, 1) := by decide +kernel
theorem dX10_ordersOf_12 : decode cX10_ordersOf 12 = .ok (.istore_n 1, 1) := by decide +kernel
theorem dX10_ordersOf_13 : decode cX10_ordersOf 13 = .ok (.iinc 2 1, 3) := by decide +kernel
theorem dX10_ordersOf_16 : decode cX10_ordersOf 16 = .ok (.goto (-12), 3) := by decide +kernel
theorem dX10_laysRow_43 : decode cX10_laysRow 43 = .ok (.iload_n 3, 1) := by decide +kernel
theorem dX10_laysRow_44 : decode cX10_laysRow 44 = .ok (.iload 9, 2) := by decide +kernel
theorem dX10_laysRow_46 : decode cX10_laysRow 46 = .ok (.invokestatic 350, 3) := by decide +kernel
theorem dX10_laysRow_49 : decode cX10_laysRow 49 = .ok (.ifCond .eq 8, 3) := by decide +kernel
theorem dX10_laysRow_57 : decode cX10_laysRow 57 = .ok (.iload 8, 2) := by decide +kernel
theorem dX10_laysRow_59 : decode cX10_laysRow 59 = .ok (.iload_n 3, 1) := by decide +kernel
theorem dX10_laysRow_60 : decode cX10_laysRow 60 = .ok (.iload 9, 2) := by decide +kernel
theorem dX10_laysRow_62 : decode cX10_laysRow 62 = .ok (.invokestatic 350, 3) := by decide +kernel
theorem dX10_laysRow_65 : decode cX10_laysRow 65 = .ok (.ifCond .eq 7, 3) := by decide +kernel
theorem dX10_laysRow_72 : decode cX10_laysRow 72 = .ok (.iconst 0, 1) := by decide +kernel
theorem dX10_laysRow_73 : decode cX10_laysRow 73 = .ok (.isub, 1) := by decide +kernel
theorem dX10_laysRow_74 : decode cX10_laysRow 74 = .ok (.istore 8, 2) := by decide +kernel
theorem dX10_laysRow_76 : decode cX10_laysRow 76 = .ok (.iinc 9 1, 3) := by decide +kernel
theorem dX10_laysRow_79 : decode cX10_laysRow 79 = .ok (.goto (-36), 3) := by decide +kernel
theorem dX10_laysRow_52 : decode cX10_laysRow 52 = .ok (.iload 8, 2) := by decide +kernel
theorem dX10_laysRow_54 : decode cX10_laysRow 54 = .ok (.ifCond .le 28, 3) := by decide +kernel
theorem dX10_laysRow_68 : decode cX10_laysRow 68 = .ok (.iconst 1, 1) := by decide +kernel
theorem dX10_laysRow_69 : decode cX10_laysRow 69 = .ok (.goto 4, 3) := by decide +kernel
theorem dX10_laysRow_14 : decode cX10_laysRow 14 = .ok (.iload 6, 2) := by decide +kernel
theorem dX10_laysRow_16 : decode cX10_laysRow 16 = .ok (.iload 4, 2) := by decide +kernel
theorem dX10_laysRow_18 : decode cX10_laysRow 18 = .ok (.if_icmp .ge 95, 3) := by decide +kernel
theorem dX10_laysRow_21 : decode cX10_laysRow 21 = .ok (.iload 4, 2) := by decide +kernel
theorem dX10_laysRow_23 : decode cX10_laysRow 23 = .ok (.iconst 1, 1) := by decide +kernel
theorem dX10_laysRow_24 : decode cX10_laysRow 24 = .ok (.isub, 1) := by decide +kernel
theorem dX10_laysRow_25 : decode cX10_laysRow 25 = .ok (.iload 6, 2) := by decide +kernel
theorem dX10_laysRow_27 : decode cX10_laysRow 27 = .ok (.isub, 1) := by decide +kernel
theorem dX10_laysRow_28 : decode cX10_laysRow 28 = .ok (.invokestatic 347, 3) := by decide +kernel
theorem dX10_laysRow_31 : decode cX10_laysRow 31 = .ok (.istore 7, 2) := by decide +kernel
theorem dX10_laysRow_33 : decode cX10_laysRow 33 = .ok (.iload 5, 2) := by decide +kernel
theorem dX10_laysRow_35 : decode cX10_laysRow 35 = .ok (.iload 7, 2) := by decide +kernel
theorem dX10_laysRow_37 : decode cX10_laysRow 37 = .ok (.idiv, 1) := by decide +kernel
theorem dX10_laysRow_38 : decode cX10_laysRow 38 = .ok (.istore 8, 2) := by decide +kernel
theorem dX10_laysRow_40 : decode cX10_laysRow 40 = .ok (.iconst 0, 1) := by decide +kernel
theorem dX10_laysRow_41 : decode cX10_laysRow 41 = .ok (.istore 9, 2) := by decide +kernel
theorem dX10_laysRow_82 : decode cX10_laysRow 82 = .ok (.aload_n 0, 1) := by decide +kernel
theorem dX10_laysRow_83 : decode cX10_laysRow 83 = .ok (.getfield 45, 3) := by decide +kernel
theorem dX10_laysRow_86 : decode cX10_laysRow 86 = .ok (.iload 6, 2) := by decide +kernel
theorem dX10_laysRow_88 : decode cX10_laysRow 88 = .ok (.iload 9, 2) := by decide +kernel
theorem dX10_laysRow_90 : decode cX10_laysRow 90 = .ok (.iastore, 1) := by decide +kernel
theorem dX10_laysRow_91 : decode cX10_laysRow 91 = .ok (.iload_n 3, 1) := by decide +kernel
theorem dX10_laysRow_92 : decode cX10_laysRow 92 = .ok (.iconst 1, 1) := by decide +kernel
theorem dX10_laysRow_93 : decode cX10_laysRow 93 = .ok (.iload 9, 2) := by decide +kernel
theorem dX10_laysRow_95 : decode cX10_laysRow 95 = .ok (.ishl, 1) := by decide +kernel
theorem dX10_laysRow_96 : decode cX10_laysRow 96 = .ok (.iconst (-1), 1) := by decide +kernel
theorem dX10_laysRow_97 : decode cX10_laysRow 97 = .ok (.ixor, 1) := by decide +kernel
theorem dX10_laysRow_98 : decode cX10_laysRow 98 = .ok (.iand, 1) := by decide +kernel
theorem dX10_laysRow_99 : decode cX10_laysRow 99 = .ok (.istore_n 3, 1) := by decide +kernel
theorem dX10_laysRow_100 : decode cX10_laysRow 100 = .ok (.iload 5, 2) := by decide +kernel
theorem dX10_laysRow_102 : decode cX10_laysRow 102 = .ok (.iload 7, 2) := by decide +kernel
theorem dX10_laysRow_104 : decode cX10_laysRow 104 = .ok (.irem, 1) := by decide +kernel
theorem dX10_laysRow_105 : decode cX10_laysRow 105 = .ok (.istore 5, 2) := by decide +kernel
theorem dX10_laysRow_107 : decode cX10_laysRow 107 = .ok (.iinc 6 1, 3) := by decide +kernel
theorem dX10_laysRow_110 : decode cX10_laysRow 110 = .ok (.goto (-96), 3) := by decide +kernel
theorem dX10_laysRow_0 : decode cX10_laysRow 0 = .ok (.iload_n 1, 1) := by decide +kernel
theorem dX10_laysRow_1 : decode cX10_laysRow 1 = .ok (.istore_n 3, 1) := by decide +kernel
theorem dX10_laysRow_2 : decode cX10_laysRow 2 = .ok (.iload_n 1, 1) := by decide +kernel
theorem dX10_laysRow_3 : decode cX10_laysRow 3 = .ok (.invokestatic 342, 3) := by decide +kernel
theorem dX10_laysRow_6 : decode cX10_laysRow 6 = .ok (.istore 4, 2) := by decide +kernel
theorem dX10_laysRow_8 : decode cX10_laysRow 8 = .ok (.iload_n 2, 1) := by decide +kernel
theorem dX10_laysRow_9 : decode cX10_laysRow 9 = .ok (.istore 5, 2) := by decide +kernel
theorem dX10_laysRow_11 : decode cX10_laysRow 11 = .ok (.iconst 0, 1) := by decide +kernel
theorem dX10_laysRow_12 : decode cX10_laysRow 12 = .ok (.istore 6, 2) := by decide +kernel
theorem dX10_laysRow_113 : decode cX10_laysRow 113 = .ok (.return_, 1) := by decide +kernel
/-! laysRow by hand: the women of a set in the row of a number -/
def ush (x : Int32) (k : Nat) : Int32 := (x.toUInt32 >>> ((nI k).toUInt32 &&& Int32.toUInt32 31)).toInt32
def bc1 (x : Int32) : Int32 := x - (ush x 1 &&& 1431655765)
def bc2 (x : Int32) : Int32 := (x &&& 858993459) + (ush x 2 &&& 858993459)
def bc3 (x : Int32) : Int32 := (x + ush x 4) &&& 252645135
def bc4 (x : Int32) : Int32 := x + ush x 8
def bc5 (x : Int32) : Int32 := x + ush x 16
def bcV (x : Int32) : Int32 := bc5 (bc4 (bc3 (bc2 (bc1 x)))) &&& nI 63
def cntN (c w : Nat) : Nat := ((List.range 8).filter (fun k => Nat.ble w k && c.testBit k)).length
def clrN (c w : Nat) : Nat := if c.testBit w then c - 2 ^ w else c
theorem bcV_N : ∀ c : Fin 256, bcV (nI c) = nI (popN c) := by decide +kernel
theorem hasN : ∀ c : Fin 256, ∀ w : Fin 8, (decide ((nI c >>> (nI w &&& 31)) &&& nI 1 = nI 1)) = (c : Nat).testBit w := by decide +kernel
theorem cntN_s : ∀ c : Fin 256, ∀ w : Fin 8, cntN c w = (if (c : Nat).testBit w then 1 else 0) + cntN c (w + 1) := by decide +kernel
theorem cntN_8 : ∀ c : Fin 256, cntN c 8 = 0 := by decide +kernel
theorem cntN_0 : ∀ c : Fin 256, cntN c 0 = popN c := by decide +kernel
theorem clrN_p : ∀ c : Fin 256, ∀ w : Fin 8, (c : Nat).testBit w = true → popN (clrN c w) + 1 = popN c ∧ clrN c w < 256 ∧ nI c &&& ((nI 1 <<< (nI w &&& 31)) ^^^ (-1)) = nI (clrN c w) := by decide +kernel
section Lay
variable (G : Gx) (d : Nat) (I : Hi)
theorem ct_bitCount (x : Int32) : Ct G GAM mJ6_bitCount_0f7a4 d 0 [.int x] I (Rp (some (.int (bcV x))) I) := by
  refine Ct.mk [some (.int x)] ?_
  refine Rn.iload_n dJ6_bitCount_0f7a4_0 rfl rfl ?_
  refine Rn.iload_n dJ6_bitCount_0f7a4_1 rfl rfl ?_
  refine Rn.iconst (v := (nI 1)) dJ6_bitCount_0f7a4_2 rfl ?_
  refine Rn.iushr dJ6_bitCount_0f7a4_3 ?_
  refine Rn.ldc_w dJ6_bitCount_0f7a4_4 kc_J6_265 ?_
  refine Rn.iand dJ6_bitCount_0f7a4_7 ?_
  refine Rn.isub dJ6_bitCount_0f7a4_8 ?_
  refine Rn.istore_n dJ6_bitCount_0f7a4_9 rfl (by decide) ?_
  refine Rn.iload_n dJ6_bitCount_0f7a4_10 rfl rfl ?_
  refine Rn.ldc_w dJ6_bitCount_0f7a4_11 kc_J6_266 ?_
  refine Rn.iand dJ6_bitCount_0f7a4_14 ?_
  refine Rn.iload_n dJ6_bitCount_0f7a4_15 rfl rfl ?_
  refine Rn.iconst (v := (nI 2)) dJ6_bitCount_0f7a4_16 rfl ?_
  refine Rn.iushr dJ6_bitCount_0f7a4_17 ?_
  refine Rn.ldc_w dJ6_bitCount_0f7a4_18 kc_J6_266 ?_
  refine Rn.iand dJ6_bitCount_0f7a4_21 ?_
  refine Rn.iadd dJ6_bitCount_0f7a4_22 ?_
  refine Rn.istore_n dJ6_bitCount_0f7a4_23 rfl (by decide) ?_
  refine Rn.iload_n dJ6_bitCount_0f7a4_24 rfl rfl ?_
  refine Rn.iload_n dJ6_bitCount_0f7a4_25 rfl rfl ?_
  refine Rn.iconst (v := (nI 4)) dJ6_bitCount_0f7a4_26 rfl ?_
  refine Rn.iushr dJ6_bitCount_0f7a4_27 ?_
  refine Rn.iadd dJ6_bitCount_0f7a4_28 ?_
  refine Rn.ldc_w dJ6_bitCount_0f7a4_29 kc_J6_267 ?_
  refine Rn.iand dJ6_bitCount_0f7a4_32 ?_
  refine Rn.istore_n dJ6_bitCount_0f7a4_33 rfl (by decide) ?_
  refine Rn.iload_n dJ6_bitCount_0f7a4_34 rfl rfl ?_
  refine Rn.iload_n dJ6_bitCount_0f7a4_35 rfl rfl ?_
  refine Rn.bipush (v := (nI 8)) dJ6_bitCount_0f7a4_36 rfl ?_
  refine Rn.iushr dJ6_bitCount_0f7a4_38 ?_
  refine Rn.iadd dJ6_bitCount_0f7a4_39 ?_
  refine Rn.istore_n dJ6_bitCount_0f7a4_40 rfl (by decide) ?_
  refine Rn.iload_n dJ6_bitCount_0f7a4_41 rfl rfl ?_
  refine Rn.iload_n dJ6_bitCount_0f7a4_42 rfl rfl ?_
  refine Rn.bipush (v := (nI 16)) dJ6_bitCount_0f7a4_43 rfl ?_
  refine Rn.iushr dJ6_bitCount_0f7a4_45 ?_
  refine Rn.iadd dJ6_bitCount_0f7a4_46 ?_
  refine Rn.istore_n dJ6_bitCount_0f7a4_47 rfl (by decide) ?_
  refine Rn.iload_n dJ6_bitCount_0f7a4_48 rfl rfl ?_
  refine Rn.bipush (v := (nI 63)) dJ6_bitCount_0f7a4_49 rfl ?_
  refine Rn.iand dJ6_bitCount_0f7a4_51 ?_
  exact Rn.iret dJ6_bitCount_0f7a4_52 rfl (⟨rfl, rfl⟩)
theorem ct_ordersOf_0 : Ct G GAM mX10_ordersOf d 0 [.int (nI 0)] I (Rp (some (.int (nI (facN 0)))) I) := by
  refine Ct.mk [some (.int (nI 0)), none, none] ?_
  refine Rn.iconst (v := (nI 1)) dX10_ordersOf_0 rfl ?_
  refine Rn.istore_n dX10_ordersOf_1 rfl (by decide) ?_
  refine Rn.iconst (v := (nI 2)) dX10_ordersOf_2 rfl ?_
  refine Rn.istore_n dX10_ordersOf_3 rfl (by decide) ?_
  refine Rn.iload_n dX10_ordersOf_4 rfl rfl ?_
  refine Rn.iload_n dX10_ordersOf_5 rfl rfl ?_
  refine Rn.icmp_gt (tgt := 19) dX10_ordersOf_6 (by decide) (fun _ => ?_) (fun h9 => absurd h9 (by decide))
  refine Rn.iload_n dX10_ordersOf_19 rfl rfl ?_
  exact Rn.iret dX10_ordersOf_20 rfl (⟨by decide, rfl⟩)
theorem ct_ordersOf_1 : Ct G GAM mX10_ordersOf d 0 [.int (nI 1)] I (Rp (some (.int (nI (facN 1)))) I) := by
  refine Ct.mk [some (.int (nI 1)), none, none] ?_
  refine Rn.iconst (v := (nI 1)) dX10_ordersOf_0 rfl ?_
  refine Rn.istore_n dX10_ordersOf_1 rfl (by decide) ?_
  refine Rn.iconst (v := (nI 2)) dX10_ordersOf_2 rfl ?_
  refine Rn.istore_n dX10_ordersOf_3 rfl (by decide) ?_
  refine Rn.iload_n dX10_ordersOf_4 rfl rfl ?_
  refine Rn.iload_n dX10_ordersOf_5 rfl rfl ?_
  refine Rn.icmp_gt (tgt := 19) dX10_ordersOf_6 (by decide) (fun _ => ?_) (fun h9 => absurd h9 (by decide))
  refine Rn.iload_n dX10_ordersOf_19 rfl rfl ?_
  exact Rn.iret dX10_ordersOf_20 rfl (⟨by decide, rfl⟩)
theorem ct_ordersOf_2 : Ct G GAM mX10_ordersOf d 0 [.int (nI 2)] I (Rp (some (.int (nI (facN 2)))) I) := by
  refine Ct.mk [some (.int (nI 2)), none, none] ?_
  refine Rn.iconst (v := (nI 1)) dX10_ordersOf_0 rfl ?_
  refine Rn.istore_n dX10_ordersOf_1 rfl (by decide) ?_
  refine Rn.iconst (v := (nI 2)) dX10_ordersOf_2 rfl ?_
  refine Rn.istore_n dX10_ordersOf_3 rfl (by decide) ?_
  refine Rn.iload_n dX10_ordersOf_4 rfl rfl ?_
  refine Rn.iload_n dX10_ordersOf_5 rfl rfl ?_
  refine Rn.icmp_gt (tgt := 19) dX10_ordersOf_6 (by decide) (fun h9 => absurd h9 (by decide)) (fun _ => ?_)
  refine Rn.iload_n dX10_ordersOf_9 rfl rfl ?_
  refine Rn.iload_n dX10_ordersOf_10 rfl rfl ?_
  refine Rn.imul dX10_ordersOf_11 ?_
  refine Rn.istore_n dX10_ordersOf_12 rfl (by decide) ?_
  refine Rn.iincN dX10_ordersOf_13 rfl (by decide) ?_
  refine Rn.goto 4 dX10_ordersOf_16 (by decide) ?_
  refine Rn.iload_n dX10_ordersOf_4 rfl rfl ?_
  refine Rn.iload_n dX10_ordersOf_5 rfl rfl ?_
  refine Rn.icmp_gt (tgt := 19) dX10_ordersOf_6 (by decide) (fun _ => ?_) (fun h9 => absurd h9 (by decide))
  refine Rn.iload_n dX10_ordersOf_19 rfl rfl ?_
  exact Rn.iret dX10_ordersOf_20 rfl (⟨by decide, rfl⟩)
theorem ct_ordersOf_3 : Ct G GAM mX10_ordersOf d 0 [.int (nI 3)] I (Rp (some (.int (nI (facN 3)))) I) := by
  refine Ct.mk [some (.int (nI 3)), none, none] ?_
  refine Rn.iconst (v := (nI 1)) dX10_ordersOf_0 rfl ?_
  refine Rn.istore_n dX10_ordersOf_1 rfl (by decide) ?_
  refine Rn.iconst (v := (nI 2)) dX10_ordersOf_2 rfl ?_
  refine Rn.istore_n dX10_ordersOf_3 rfl (by decide) ?_
  refine Rn.iload_n dX10_ordersOf_4 rfl rfl ?_
  refine Rn.iload_n dX10_ordersOf_5 rfl rfl ?_
  refine Rn.icmp_gt (tgt := 19) dX10_ordersOf_6 (by decide) (fun h9 => absurd h9 (by decide)) (fun _ => ?_)
  refine Rn.iload_n dX10_ordersOf_9 rfl rfl ?_
  refine Rn.iload_n dX10_ordersOf_10 rfl rfl ?_
  refine Rn.imul dX10_ordersOf_11 ?_
  refine Rn.istore_n dX10_ordersOf_12 rfl (by decide) ?_
  refine Rn.iincN dX10_ordersOf_13 rfl (by decide) ?_
  refine Rn.goto 4 dX10_ordersOf_16 (by decide) ?_
  refine Rn.iload_n dX10_ordersOf_4 rfl rfl ?_
  refine Rn.iload_n dX10_ordersOf_5 rfl rfl ?_
  refine Rn.icmp_gt (tgt := 19) dX10_ordersOf_6 (by decide) (fun h9 => absurd h9 (by decide)) (fun _ => ?_)
  refine Rn.iload_n dX10_ordersOf_9 rfl rfl ?_
  refine Rn.iload_n dX10_ordersOf_10 rfl rfl ?_
  refine Rn.imul dX10_ordersOf_11 ?_
  refine Rn.istore_n dX10_ordersOf_12 rfl (by decide) ?_
  refine Rn.iincN dX10_ordersOf_13 rfl (by decide) ?_
  refine Rn.goto 4 dX10_ordersOf_16 (by decide) ?_
  refine Rn.iload_n dX10_ordersOf_4 rfl rfl ?_
  refine Rn.iload_n dX10_ordersOf_5 rfl rfl ?_
  refine Rn.icmp_gt (tgt := 19) dX10_ordersOf_6 (by decide) (fun _ => ?_) (fun h9 => absurd h9 (by decide))
  refine Rn.iload_n dX10_ordersOf_19 rfl rfl ?_
  exact Rn.iret dX10_ordersOf_20 rfl (⟨by decide, rfl⟩)
theorem ct_ordersOf_4 : Ct G GAM mX10_ordersOf d 0 [.int (nI 4)] I (Rp (some (.int (nI (facN 4)))) I) := by
  refine Ct.mk [some (.int (nI 4)), none, none] ?_
  refine Rn.iconst (v := (nI 1)) dX10_ordersOf_0 rfl ?_
  refine Rn.istore_n dX10_ordersOf_1 rfl (by decide) ?_
  refine Rn.iconst (v := (nI 2)) dX10_ordersOf_2 rfl ?_
  refine Rn.istore_n dX10_ordersOf_3 rfl (by decide) ?_
  refine Rn.iload_n dX10_ordersOf_4 rfl rfl ?_
  refine Rn.iload_n dX10_ordersOf_5 rfl rfl ?_
  refine Rn.icmp_gt (tgt := 19) dX10_ordersOf_6 (by decide) (fun h9 => absurd h9 (by decide)) (fun _ => ?_)
  refine Rn.iload_n dX10_ordersOf_9 rfl rfl ?_
  refine Rn.iload_n dX10_ordersOf_10 rfl rfl ?_
  refine Rn.imul dX10_ordersOf_11 ?_
  refine Rn.istore_n dX10_ordersOf_12 rfl (by decide) ?_
  refine Rn.iincN dX10_ordersOf_13 rfl (by decide) ?_
  refine Rn.goto 4 dX10_ordersOf_16 (by decide) ?_
  refine Rn.iload_n dX10_ordersOf_4 rfl rfl ?_
  refine Rn.iload_n dX10_ordersOf_5 rfl rfl ?_
  refine Rn.icmp_gt (tgt := 19) dX10_ordersOf_6 (by decide) (fun h9 => absurd h9 (by decide)) (fun _ => ?_)
  refine Rn.iload_n dX10_ordersOf_9 rfl rfl ?_
  refine Rn.iload_n dX10_ordersOf_10 rfl rfl ?_
  refine Rn.imul dX10_ordersOf_11 ?_
  refine Rn.istore_n dX10_ordersOf_12 rfl (by decide) ?_
  refine Rn.iincN dX10_ordersOf_13 rfl (by decide) ?_
  refine Rn.goto 4 dX10_ordersOf_16 (by decide) ?_
  refine Rn.iload_n dX10_ordersOf_4 rfl rfl ?_
  refine Rn.iload_n dX10_ordersOf_5 rfl rfl ?_
  refine Rn.icmp_gt (tgt := 19) dX10_ordersOf_6 (by decide) (fun h9 => absurd h9 (by decide)) (fun _ => ?_)
  refine Rn.iload_n dX10_ordersOf_9 rfl rfl ?_
  refine Rn.iload_n dX10_ordersOf_10 rfl rfl ?_
  refine Rn.imul dX10_ordersOf_11 ?_
  refine Rn.istore_n dX10_ordersOf_12 rfl (by decide) ?_
  refine Rn.iincN dX10_ordersOf_13 rfl (by decide) ?_
  refine Rn.goto 4 dX10_ordersOf_16 (by decide) ?_
  refine Rn.iload_n dX10_ordersOf_4 rfl rfl ?_
  refine Rn.iload_n dX10_ordersOf_5 rfl rfl ?_
  refine Rn.icmp_gt (tgt := 19) dX10_ordersOf_6 (by decide) (fun _ => ?_) (fun h9 => absurd h9 (by decide))
  refine Rn.iload_n dX10_ordersOf_19 rfl rfl ?_
  exact Rn.iret dX10_ordersOf_20 rfl (⟨by decide, rfl⟩)
theorem ct_ordersOf_5 : Ct G GAM mX10_ordersOf d 0 [.int (nI 5)] I (Rp (some (.int (nI (facN 5)))) I) := by
  refine Ct.mk [some (.int (nI 5)), none, none] ?_
  refine Rn.iconst (v := (nI 1)) dX10_ordersOf_0 rfl ?_
  refine Rn.istore_n dX10_ordersOf_1 rfl (by decide) ?_
  refine Rn.iconst (v := (nI 2)) dX10_ordersOf_2 rfl ?_
  refine Rn.istore_n dX10_ordersOf_3 rfl (by decide) ?_
  refine Rn.iload_n dX10_ordersOf_4 rfl rfl ?_
  refine Rn.iload_n dX10_ordersOf_5 rfl rfl ?_
  refine Rn.icmp_gt (tgt := 19) dX10_ordersOf_6 (by decide) (fun h9 => absurd h9 (by decide)) (fun _ => ?_)
  refine Rn.iload_n dX10_ordersOf_9 rfl rfl ?_
  refine Rn.iload_n dX10_ordersOf_10 rfl rfl ?_
  refine Rn.imul dX10_ordersOf_11 ?_
  refine Rn.istore_n dX10_ordersOf_12 rfl (by decide) ?_
  refine Rn.iincN dX10_ordersOf_13 rfl (by decide) ?_
  refine Rn.goto 4 dX10_ordersOf_16 (by decide) ?_
  refine Rn.iload_n dX10_ordersOf_4 rfl rfl ?_
  refine Rn.iload_n dX10_ordersOf_5 rfl rfl ?_
  refine Rn.icmp_gt (tgt := 19) dX10_ordersOf_6 (by decide) (fun h9 => absurd h9 (by decide)) (fun _ => ?_)
  refine Rn.iload_n dX10_ordersOf_9 rfl rfl ?_
  refine Rn.iload_n dX10_ordersOf_10 rfl rfl ?_
  refine Rn.imul dX10_ordersOf_11 ?_
  refine Rn.istore_n dX10_ordersOf_12 rfl (by decide) ?_
  refine Rn.iincN dX10_ordersOf_13 rfl (by decide) ?_
  refine Rn.goto 4 dX10_ordersOf_16 (by decide) ?_
  refine Rn.iload_n dX10_ordersOf_4 rfl rfl ?_
  refine Rn.iload_n dX10_ordersOf_5 rfl rfl ?_
  refine Rn.icmp_gt (tgt := 19) dX10_ordersOf_6 (by decide) (fun h9 => absurd h9 (by decide)) (fun _ => ?_)
  refine Rn.iload_n dX10_ordersOf_9 rfl rfl ?_
  refine Rn.iload_n dX10_ordersOf_10 rfl rfl ?_
  refine Rn.imul dX10_ordersOf_11 ?_
  refine Rn.istore_n dX10_ordersOf_12 rfl (by decide) ?_
  refine Rn.iincN dX10_ordersOf_13 rfl (by decide) ?_
  refine Rn.goto 4 dX10_ordersOf_16 (by decide) ?_
  refine Rn.iload_n dX10_ordersOf_4 rfl rfl ?_
  refine Rn.iload_n dX10_ordersOf_5 rfl rfl ?_
  refine Rn.icmp_gt (tgt := 19) dX10_ordersOf_6 (by decide) (fun h9 => absurd h9 (by decide)) (fun _ => ?_)
  refine Rn.iload_n dX10_ordersOf_9 rfl rfl ?_
  refine Rn.iload_n dX10_ordersOf_10 rfl rfl ?_
  refine Rn.imul dX10_ordersOf_11 ?_
  refine Rn.istore_n dX10_ordersOf_12 rfl (by decide) ?_
  refine Rn.iincN dX10_ordersOf_13 rfl (by decide) ?_
  refine Rn.goto 4 dX10_ordersOf_16 (by decide) ?_
  refine Rn.iload_n dX10_ordersOf_4 rfl rfl ?_
  refine Rn.iload_n dX10_ordersOf_5 rfl rfl ?_
  refine Rn.icmp_gt (tgt := 19) dX10_ordersOf_6 (by decide) (fun _ => ?_) (fun h9 => absurd h9 (by decide))
  refine Rn.iload_n dX10_ordersOf_19 rfl rfl ?_
  exact Rn.iret dX10_ordersOf_20 rfl (⟨by decide, rfl⟩)
theorem ct_ordersOf (n : Nat) (h : n ≤ 5) : Ct G GAM mX10_ordersOf d 0 [.int (nI n)] I (Rp (some (.int (nI (facN n)))) I) := by
  match n, h with
  | 0, _ => exact ct_ordersOf_0 G d I
  | 1, _ => exact ct_ordersOf_1 G d I
  | 2, _ => exact ct_ordersOf_2 G d I
  | 3, _ => exact ct_ordersOf_3 G d I
  | 4, _ => exact ct_ordersOf_4 G d I
  | 5, _ => exact ct_ordersOf_5 G d I
  | n + 6, h => exact absurd h (by omega)
theorem lp_layI {kx : Kx} {b : Nat} (c : Fin 256) (x1 x2 x4 x5 x6 x7 : Option Value) (k : ∀ (w : Fin 8) (x8 : Option Value), (c : Nat).testBit w = true → Rn G GAM mX10_laysRow kx (d + 3) b 82 [some (.ref 94), x1, x2, some (.int (nI c)), x4, x5, x6, x7, x8, some (.int (nI w))] [] I) :
    ∀ (m w s : Nat), w + m = 8 → s < cntN c w → Rn G GAM mX10_laysRow kx (d + 3) b 43 [some (.ref 94), x1, x2, some (.int (nI c)), x4, x5, x6, x7, some (.int (nI s)), some (.int (nI w))] [] I := by
  intro m
  induction m with
  | zero =>
    intro w s hw hs
    obtain rfl : w = 8 := by omega
    rw [cntN_8] at hs
    omega
  | succ m ih =>
    intro w s hw hs
    have hb := hasN c ⟨w, by omega⟩
    have hc := cntN_s c ⟨w, by omega⟩
    have hc : cntN c w = (if (c : Nat).testBit w then 1 else 0) + cntN c (w + 1) := hc
    have hb : decide ((nI c >>> (nI w &&& 31)) &&& nI 1 = nI 1) = (c : Nat).testBit w := hb
    have h8 : cntN c w ≤ 8 := Nat.le_trans (List.length_filter_le _ _) (by simp)
    refine Rn.iload_n dX10_laysRow_43 rfl rfl ?_
    refine Rn.iload dX10_laysRow_44 rfl ?_
    refine Rn.callSp (As := [_, _]) dX10_laysRow_46 ms_X10_350 rfl rfl (Nat.le_of_ble_eq_true rfl) (ct_has G _ _ _ _) ?_
    refine Rn.if_eqB dX10_laysRow_49 57 (fun h1 => ?_) (fun h1 => ?_)
    · have h2 : (c : Nat).testBit w = false := by rw [← hb]; exact decide_eq_false h1
      rw [h2] at hc
      simp only [Bool.false_eq_true, if_false, Nat.zero_add] at hc
      refine Rn.iload dX10_laysRow_57 rfl ?_
      refine Rn.iload_n dX10_laysRow_59 rfl rfl ?_
      refine Rn.iload dX10_laysRow_60 rfl ?_
      refine Rn.callSp (As := [_, _]) dX10_laysRow_62 ms_X10_350 rfl rfl (Nat.le_of_ble_eq_true rfl) (ct_has G _ _ _ _) ?_
      refine Rn.if_eqB dX10_laysRow_65 72 (fun h3 => ?_) (fun h3 => ?_)
      · refine Rn.iconst (v := (nI 0)) dX10_laysRow_72 rfl ?_
        refine Rn.isub dX10_laysRow_73 ?_
        refine Rn.topI (nI (s - 0)) (by exact pk_sub (by simp)) ?_
        refine Rn.istore dX10_laysRow_74 (by decide) ?_
        refine Rn.iincN dX10_laysRow_76 rfl (by decide) ?_
        refine Rn.goto 43 dX10_laysRow_79 (by decide) ?_
        exact ih (w + 1) s (by omega) (by omega)
      · exact absurd h3 h1
    · have h2 : (c : Nat).testBit w = true := by rw [← hb]; exact decide_eq_true h1
      rw [h2] at hc
      simp only [if_true] at hc
      refine Rn.iload dX10_laysRow_52 rfl ?_
      refine Rn.if_leN dX10_laysRow_54 82 (fun h4 => ?_) (fun h4 => ?_)
      · exact k ⟨w, by omega⟩ _ h2
      · refine Rn.iload dX10_laysRow_57 rfl ?_
        refine Rn.iload_n dX10_laysRow_59 rfl rfl ?_
        refine Rn.iload dX10_laysRow_60 rfl ?_
        refine Rn.callSp (As := [_, _]) dX10_laysRow_62 ms_X10_350 rfl rfl (Nat.le_of_ble_eq_true rfl) (ct_has G _ _ _ _) ?_
        refine Rn.if_eqB dX10_laysRow_65 72 (fun h3 => ?_) (fun h3 => ?_)
        · exact absurd h1 h3
        · refine Rn.iconst (v := (nI 1)) dX10_laysRow_68 rfl ?_
          refine Rn.goto 73 dX10_laysRow_69 (by decide) ?_
          refine Rn.isub dX10_laysRow_73 ?_
          refine Rn.topI (nI (s - 1)) (by exact pk_sub (by omega)) ?_
          refine Rn.istore dX10_laysRow_74 (by decide) ?_
          refine Rn.iincN dX10_laysRow_76 rfl (by decide) ?_
          refine Rn.goto 43 dX10_laysRow_79 (by decide) ?_
          exact ih (w + 1) (s - 1) (by omega) (by omega)
theorem facN_pos : ∀ n, 0 < facN n
  | 0 => by decide
  | n + 1 => Nat.mul_pos (by omega) (facN_pos n)
theorem lp_layO {kx : Kx} {b : Nat} (N : Nat) (hN : N ≤ 5) (x1 x2 : Option Value) (k : ∀ (g : Nat → Int32) (x3 x5 x6 x7 x8 x9 : Option Value), (∀ j, inIv (0, 7) (g j)) → (∀ j, 4 < j → g j = I 104 j) → Rn G GAM mX10_laysRow kx (d + 3) b 113 [some (.ref 94), x1, x2, x3, some (.int (nI N)), x5, x6, x7, x8, x9] [] (zset I 104 g)) :
    ∀ (m K : Nat) (c : Fin 256) (R : Nat) (g : Nat → Int32) (x7 x8 x9 : Option Value), K + m = N → popN c = m → R < facN m → (∀ j, inIv (0, 7) (g j)) → (∀ j, 4 < j → g j = I 104 j) → Rn G GAM mX10_laysRow kx (d + 3) b 14 [some (.ref 94), x1, x2, some (.int (nI c)), some (.int (nI N)), some (.int (nI R)), some (.int (nI K)), x7, x8, x9] [] (zset I 104 g) := by
  intro m
  induction m with
  | zero =>
    intro K c R g x7 x8 x9 hK hp hR hg hg5
    obtain rfl : K = N := by omega
    refine Rn.iload dX10_laysRow_14 rfl ?_
    refine Rn.iload dX10_laysRow_16 rfl ?_
    refine Rn.icmp_geN dX10_laysRow_18 113 (fun _ => ?_) (fun h9 => by exfalso; omega)
    exact k g _ _ _ _ _ _ hg hg5
  | succ m ih =>
    intro K c R g x7 x8 x9 hK hp hR hg hg5
    have hf := facN_pos m
    have hR2 : R < (m + 1) * facN m := hR
    have hR9 : (m + 1) * facN m ≤ 720 := by
      have : m = 0 ∨ m = 1 ∨ m = 2 ∨ m = 3 ∨ m = 4 := by omega
      rcases this with rfl | rfl | rfl | rfl | rfl <;> decide
    have hf9 : facN m ≤ 720 := by
      have : m = 0 ∨ m = 1 ∨ m = 2 ∨ m = 3 ∨ m = 4 := by omega
      rcases this with rfl | rfl | rfl | rfl | rfl <;> decide
    have hs : R / facN m < cntN c 0 := by
      rw [cntN_0, hp]
      exact Nat.div_lt_of_lt_mul (by rw [Nat.mul_comm]; exact hR2)
    refine Rn.iload dX10_laysRow_14 rfl ?_
    refine Rn.iload dX10_laysRow_16 rfl ?_
    refine Rn.icmp_geN dX10_laysRow_18 113 (fun h9 => by exfalso; omega) (fun _ => ?_)
    refine Rn.iload dX10_laysRow_21 rfl ?_
    refine Rn.iconst (v := (nI 1)) dX10_laysRow_23 rfl ?_
    refine Rn.isub dX10_laysRow_24 ?_
    refine Rn.topI (nI (N - 1)) (by exact pk_sub (by omega)) ?_
    refine Rn.iload dX10_laysRow_25 rfl ?_
    refine Rn.isub dX10_laysRow_27 ?_
    refine Rn.topI (nI m) (by rw [pk_sub (by omega)]; congr 1; omega) ?_
    refine Rn.callSp (As := [_]) dX10_laysRow_28 ms_X10_347 rfl rfl (Nat.le_of_ble_eq_true rfl) (ct_ordersOf G _ _ _ (by omega)) ?_
    refine Rn.istore dX10_laysRow_31 (by decide) ?_
    refine Rn.iload dX10_laysRow_33 rfl ?_
    refine Rn.iload dX10_laysRow_35 rfl ?_
    refine Rn.idiv dX10_laysRow_37 (by intro q; rw [nI_z (by omega)] at q; omega) ?_
    refine Rn.topI (nI (R / facN m)) (by exact pk_div (by omega) (by omega) (by omega)) ?_
    refine Rn.istore dX10_laysRow_38 (by decide) ?_
    refine Rn.iconst (v := (nI 0)) dX10_laysRow_40 rfl ?_
    refine Rn.istore dX10_laysRow_41 (by decide) ?_
    refine lp_layI G d (zset I 104 g) c _ _ _ _ _ _ (fun w x8 hw => ?_) 8 0 (R / facN m) rfl hs
    obtain ⟨q1, q2, q3⟩ := clrN_p c w hw
    refine Rn.aload_n dX10_laysRow_82 rfl rfl ?_
    refine Rn.getR dX10_laysRow_83 fd_X10_45_9 (by first | rfl | exact gC0 (by assumption) | exact gL0 (by assumption)) rfl ?_
    refine Rn.iload dX10_laysRow_86 rfl ?_
    refine Rn.iload dX10_laysRow_88 rfl ?_
    refine Rn.secI (nI (K)) (by first | rfl | (simp only [nI_add, pk_mul, nI_1]; done) | (simp only [nI_add, pk_mul, nI_1]; congr 1; omega)) ?_
    refine Rn.iastN dX10_laysRow_90 (by first | rfl | exact gC1 (by assumption) | exact gC2 (by assumption) | exact gC3 (by assumption) | exact gL1 (by assumption) | exact gL2 (by assumption) | exact gL3 (by assumption) | exact gL4 (by assumption) | exact gL5 (by assumption) | exact gL6 (by assumption)) ?_
    refine Rn.iload_n dX10_laysRow_91 rfl rfl ?_
    refine Rn.iconst (v := (nI 1)) dX10_laysRow_92 rfl ?_
    refine Rn.iload dX10_laysRow_93 rfl ?_
    refine Rn.ishl dX10_laysRow_95 ?_
    refine Rn.iconst (v := (-1)) dX10_laysRow_96 rfl ?_
    refine Rn.ixor dX10_laysRow_97 ?_
    refine Rn.iand dX10_laysRow_98 ?_
    refine Rn.topI (nI (clrN c w)) q3 ?_
    refine Rn.istore_n dX10_laysRow_99 rfl (by decide) ?_
    refine Rn.iload dX10_laysRow_100 rfl ?_
    refine Rn.iload dX10_laysRow_102 rfl ?_
    refine Rn.irem dX10_laysRow_104 (by intro q; rw [nI_z (by omega)] at q; omega) ?_
    refine Rn.topI (nI (R % facN m)) (by exact pk_rem (by omega) (by omega) (by omega)) ?_
    refine Rn.istore dX10_laysRow_105 (by decide) ?_
    refine Rn.iincN dX10_laysRow_107 rfl (by decide) ?_
    refine Rn.goto 14 dX10_laysRow_110 (by decide) ?_
    refine Rn.hpp _ (zup_zset _ _ _ _ _) (ih (K + 1) ⟨clrN c w, q2⟩ (R % facN m) _ _ _ _ (by omega) (by show popN (clrN c w) = m; omega) (Nat.mod_lt _ hf) (fun j => ?_) (fun j hj => ?_))
    · simp only [upd]
      split
      · exact iv_nI (n := 7) (by omega) (by decide)
      · exact hg j
    · simp only [upd]
      rw [if_neg (by omega)]
      exact hg5 j hj
end Lay
section LayM
variable {G : Gx}
theorem ct_laysRow (d : Nat) (I : Hi) (c : Fin 256) (R : Nat) (hp : popN c ≤ 5) (hR : R < facN (popN c)) (hg : ∀ j, inIv (0, 7) (I 104 j)) : Ct G GAM mX10_laysRow (d + 3) 0 [.ref 94, .int (nI c), .int (nI R)] I (fun o J => o = .inl none ∧ ∃ g, J = zset I 104 g ∧ (∀ j, inIv (0, 7) (g j)) ∧ ∀ j, 4 < j → g j = I 104 j) := by
  refine Ct.mk [some (.ref 94), some (.int (nI c)), some (.int (nI R)), none, none, none, none, none, none, none] ?_
  refine Rn.iload_n dX10_laysRow_0 rfl rfl ?_
  refine Rn.istore_n dX10_laysRow_1 rfl (by decide) ?_
  refine Rn.iload_n dX10_laysRow_2 rfl rfl ?_
  refine Rn.callSp (As := [_]) dX10_laysRow_3 ms_X10_342 rfl rfl (Nat.le_of_ble_eq_true rfl) (ct_bitCount G _ _ _) ?_
  refine Rn.topI (nI (popN c)) (bcV_N c) ?_
  refine Rn.istore dX10_laysRow_6 (by decide) ?_
  refine Rn.iload_n dX10_laysRow_8 rfl rfl ?_
  refine Rn.istore dX10_laysRow_9 (by decide) ?_
  refine Rn.iconst (v := (nI 0)) dX10_laysRow_11 rfl ?_
  refine Rn.istore dX10_laysRow_12 (by decide) ?_
  refine Rn.hpp _ (zset_self I 104).symm (lp_layO G d I (popN c) hp _ _ ?_ (popN c) 0 c R (I 104) _ _ _ (by omega) rfl hR hg (fun _ _ => rfl))
  intro g x3 x5 x6 x7 x8 x9 h1 h2
  exact Rn.vret dX10_laysRow_113 rfl (⟨rfl, g, rfl, h1, h2⟩)
theorem man_laysRow {X : Hi → Prop} (oX : okX X) (c : Nat) (hc : c < 256) (hp : popN c ≤ 5) : CtOK G (hxM []) X mtL (ct_lr c) := by
  intro k I vs hB hX hA hF
  obtain ⟨t0, rfl, hA1⟩ := argM_r hA
  obtain ⟨x, t1, rfl, hx, hA2⟩ := argM_i hA1
  obtain ⟨y, t2, rfl, hy, hA3⟩ := argM_i hA2
  cases argM_n hA3
  have hx : (c : Int) ≤ x.toInt ∧ x.toInt ≤ (c : Int) := hx
  have hy : (0 : Int) ≤ y.toInt ∧ y.toInt ≤ (facN (popN c) : Int) - 1 := hy
  obtain ⟨a, ha, rfl⟩ := nI_iv (n := 255) (x := x) ⟨by show (0 : Int) ≤ _; omega, by show _ ≤ (255 : Int); omega⟩
  obtain ⟨R, hR, rfl⟩ := nI_iv (n := facN (popN c) - 1) (x := y) ⟨hy.1, by have := facN_pos (popN c); show _ ≤ ((facN (popN c) - 1 : Nat) : Int); omega⟩
  rw [nI_toInt (by omega)] at hx
  obtain rfl : a = c := by omega
  have hf := facN_pos (popN a)
  have hg : ∀ j, inIv (0, 7) (I 104 j) := fun j => hB 104 j
  have hc := ct_laysRow (G := G) k I ⟨a, hc⟩ R hp (show R < facN (popN a) by omega) hg
  rw [Nat.add_comm] at hc
  refine hc.weak (fun o J h => ?_)
  obtain ⟨rfl, g, rfl, h1, h2⟩ := h
  refine ⟨fun c j => ?_, oX.ne hX (hxD_no (by decide)) _, Fs_cell g (List.mem_singleton.mpr rfl) (fun j h3 h4 => h2 j (by omega)), _, List.mem_singleton.mpr rfl, trivial, fun e he => nomatch he⟩
  by_cases e : c = 104
  · subst e
    rw [zset_at]
    exact h1 j
  · rw [zset_ne _ _ e]
    exact hB c j
end LayM
