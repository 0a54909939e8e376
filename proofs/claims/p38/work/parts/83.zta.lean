theorem dX9_end_0 : decode cX9_end 0 = .ok (.iload_n 1, 1) := by decide +kernel
theorem dX9_end_1 : decode cX9_end 1 = .ok (.ifCond .lt 14, 3) := by decide +kernel
theorem dX9_end_15 : decode cX9_end 15 = .ok (.iconst 0, 1) := by decide +kernel
theorem dX9_end_16 : decode cX9_end 16 = .ok (.ireturn, 1) := by decide +kernel
theorem dX9_end_4 : decode cX9_end 4 = .ok (.iload_n 1, 1) := by decide +kernel
theorem dX9_end_5 : decode cX9_end 5 = .ok (.aload_n 0, 1) := by decide +kernel
theorem dX9_end_6 : decode cX9_end 6 = .ok (.getfield 10, 3) := by decide +kernel
theorem dX9_end_9 : decode cX9_end 9 = .ok (.getfield 84, 3) := by decide +kernel
theorem dX9_end_12 : decode cX9_end 12 = .ok (.if_icmp .le 5, 3) := by decide +kernel
theorem dX9_end_17 : decode cX9_end 17 = .ok (.aload_n 0, 1) := by decide +kernel
theorem dX9_end_18 : decode cX9_end 18 = .ok (.getfield 10, 3) := by decide +kernel
theorem dX9_end_21 : decode cX9_end 21 = .ok (.iload_n 1, 1) := by decide +kernel
theorem dX9_end_22 : decode cX9_end 22 = .ok (.putfield 84, 3) := by decide +kernel
theorem dX9_end_25 : decode cX9_end 25 = .ok (.iconst 1, 1) := by decide +kernel
theorem dX9_end_26 : decode cX9_end 26 = .ok (.ireturn, 1) := by decide +kernel
theorem dX8_put_3 : decode cX8_put 3 = .ok (.iload_n 2, 1) := by decide +kernel
theorem dX8_put_4 : decode cX8_put 4 = .ok (.ifCond .lt 52, 3) := by decide +kernel
theorem dX8_put_7 : decode cX8_put 7 = .ok (.aload_n 0, 1) := by decide +kernel
theorem dX8_put_8 : decode cX8_put 8 = .ok (.getfield 15, 3) := by decide +kernel
theorem dX8_put_11 : decode cX8_put 11 = .ok (.ifCond .lt 39, 3) := by decide +kernel
theorem dX8_put_14 : decode cX8_put 14 = .ok (.aload_n 0, 1) := by decide +kernel
theorem dX8_put_15 : decode cX8_put 15 = .ok (.getfield 15, 3) := by decide +kernel
theorem dX8_put_18 : decode cX8_put 18 = .ok (.sipush 400, 3) := by decide +kernel
theorem dX8_put_21 : decode cX8_put 21 = .ok (.if_icmp .ge 29, 3) := by decide +kernel
theorem dX8_put_24 : decode cX8_put 24 = .ok (.aload_n 0, 1) := by decide +kernel
theorem dX8_put_25 : decode cX8_put 25 = .ok (.getfield 9, 3) := by decide +kernel
theorem dX8_put_28 : decode cX8_put 28 = .ok (.aload_n 0, 1) := by decide +kernel
theorem dX8_put_29 : decode cX8_put 29 = .ok (.getfield 15, 3) := by decide +kernel
theorem dX8_put_32 : decode cX8_put 32 = .ok (.iload_n 1, 1) := by decide +kernel
theorem dX8_put_33 : decode cX8_put 33 = .ok (.iload_n 2, 1) := by decide +kernel
theorem dX8_put_34 : decode cX8_put 34 = .ok (.iushr, 1) := by decide +kernel
theorem dX8_put_35 : decode cX8_put 35 = .ok (.sipush 255, 3) := by decide +kernel
theorem dX8_put_38 : decode cX8_put 38 = .ok (.iand, 1) := by decide +kernel
theorem dX8_put_39 : decode cX8_put 39 = .ok (.iastore, 1) := by decide +kernel
theorem dX8_put_40 : decode cX8_put 40 = .ok (.aload_n 0, 1) := by decide +kernel
theorem dX8_put_41 : decode cX8_put 41 = .ok (.dup, 1) := by decide +kernel
theorem dX8_put_42 : decode cX8_put 42 = .ok (.getfield 15, 3) := by decide +kernel
theorem dX8_put_45 : decode cX8_put 45 = .ok (.iconst 1, 1) := by decide +kernel
theorem dX8_put_46 : decode cX8_put 46 = .ok (.iadd, 1) := by decide +kernel
theorem dX8_put_47 : decode cX8_put 47 = .ok (.putfield 15, 3) := by decide +kernel
theorem dX8_put_50 : decode cX8_put 50 = .ok (.iinc 2 (-8), 3) := by decide +kernel
theorem dX8_put_53 : decode cX8_put 53 = .ok (.goto (-50), 3) := by decide +kernel
theorem dX8_put_0 : decode cX8_put 0 = .ok (.bipush 24, 2) := by decide +kernel
theorem dX8_put_2 : decode cX8_put 2 = .ok (.istore_n 2, 1) := by decide +kernel
theorem dX8_put_56 : decode cX8_put 56 = .ok (.return_, 1) := by decide +kernel
theorem dX9_feed_0 : decode cX9_feed 0 = .ok (.aload_n 0, 1) := by decide +kernel
theorem dX9_feed_1 : decode cX9_feed 1 = .ok (.getfield 10, 3) := by decide +kernel
theorem dX9_feed_4 : decode cX9_feed 4 = .ok (.getfield 84, 3) := by decide +kernel
theorem dX9_feed_7 : decode cX9_feed 7 = .ok (.bipush 20, 2) := by decide +kernel
theorem dX9_feed_9 : decode cX9_feed 9 = .ok (.iadd, 1) := by decide +kernel
theorem dX9_feed_10 : decode cX9_feed 10 = .ok (.sipush 400, 3) := by decide +kernel
theorem dX9_feed_13 : decode cX9_feed 13 = .ok (.if_icmp .le 5, 3) := by decide +kernel
theorem dX9_feed_18 : decode cX9_feed 18 = .ok (.aload_n 0, 1) := by decide +kernel
theorem dX9_feed_19 : decode cX9_feed 19 = .ok (.getfield 10, 3) := by decide +kernel
theorem dX9_feed_22 : decode cX9_feed 22 = .ok (.iload_n 1, 1) := by decide +kernel
theorem dX9_feed_23 : decode cX9_feed 23 = .ok (.invokevirtual 87, 3) := by decide +kernel
theorem dX9_feed_26 : decode cX9_feed 26 = .ok (.aload_n 0, 1) := by decide +kernel
theorem dX9_feed_27 : decode cX9_feed 27 = .ok (.getfield 10, 3) := by decide +kernel
theorem dX9_feed_30 : decode cX9_feed 30 = .ok (.iload_n 2, 1) := by decide +kernel
theorem dX9_feed_31 : decode cX9_feed 31 = .ok (.invokevirtual 87, 3) := by decide +kernel
theorem dX9_feed_34 : decode cX9_feed 34 = .ok (.aload_n 0, 1) := by decide +kernel
theorem dX9_feed_35 : decode cX9_feed 35 = .ok (.getfield 10, 3) := by decide +kernel
theorem dX9_feed_38 : decode cX9_feed 38 = .ok (.iload_n 3, 1) := by decide +kernel
theorem dX9_feed_39 : decode cX9_feed 39 = .ok (.invokevirtual 87, 3) := by decide +kernel
theorem dX9_feed_42 : decode cX9_feed 42 = .ok (.aload_n 0, 1) := by decide +kernel
theorem dX9_feed_43 : decode cX9_feed 43 = .ok (.getfield 10, 3) := by decide +kernel
theorem dX9_feed_46 : decode cX9_feed 46 = .ok (.iload 4, 2) := by decide +kernel
theorem dX9_feed_48 : decode cX9_feed 48 = .ok (.invokevirtual 87, 3) := by decide +kernel
theorem dX9_feed_51 : decode cX9_feed 51 = .ok (.aload_n 0, 1) := by decide +kernel
theorem dX9_feed_52 : decode cX9_feed 52 = .ok (.getfield 10, 3) := by decide +kernel
theorem dX9_feed_55 : decode cX9_feed 55 = .ok (.iload 5, 2) := by decide +kernel
theorem dX9_feed_57 : decode cX9_feed 57 = .ok (.invokevirtual 87, 3) := by decide +kernel
theorem dX9_feed_60 : decode cX9_feed 60 = .ok (.aload_n 0, 1) := by decide +kernel
theorem dX9_feed_61 : decode cX9_feed 61 = .ok (.getfield 10, 3) := by decide +kernel
theorem dX9_feed_64 : decode cX9_feed 64 = .ok (.getfield 84, 3) := by decide +kernel
theorem dX9_feed_67 : decode cX9_feed 67 = .ok (.ireturn, 1) := by decide +kernel
theorem dX9_feed_16 : decode cX9_feed 16 = .ok (.iconst (-1), 1) := by decide +kernel
theorem dX9_feed_17 : decode cX9_feed 17 = .ok (.ireturn, 1) := by decide +kernel
theorem dX10_feed_60 : decode cX10_feed 60 = .ok (.iload 6, 2) := by decide +kernel
theorem dX10_feed_62 : decode cX10_feed 62 = .ok (.bipush 20, 2) := by decide +kernel
theorem dX10_feed_64 : decode cX10_feed 64 = .ok (.if_icmp .ge 42, 3) := by decide +kernel
theorem dX10_feed_67 : decode cX10_feed 67 = .ok (.aload_n 0, 1) := by decide +kernel
theorem dX10_feed_68 : decode cX10_feed 68 = .ok (.getfield 29, 3) := by decide +kernel
theorem dX10_feed_71 : decode cX10_feed 71 = .ok (.aload_n 0, 1) := by decide +kernel
theorem dX10_feed_72 : decode cX10_feed 72 = .ok (.getfield 86, 3) := by decide +kernel
theorem dX10_feed_75 : decode cX10_feed 75 = .ok (.iload 6, 2) := by decide +kernel
theorem dX10_feed_77 : decode cX10_feed 77 = .ok (.iadd, 1) := by decide +kernel
theorem dX10_feed_78 : decode cX10_feed 78 = .ok (.aload_n 0, 1) := by decide +kernel
theorem dX10_feed_79 : decode cX10_feed 79 = .ok (.getfield 36, 3) := by decide +kernel
theorem dX10_feed_82 : decode cX10_feed 82 = .ok (.iload 6, 2) := by decide +kernel
theorem dX10_feed_84 : decode cX10_feed 84 = .ok (.iconst 4, 1) := by decide +kernel
theorem dX10_feed_85 : decode cX10_feed 85 = .ok (.idiv, 1) := by decide +kernel
theorem dX10_feed_86 : decode cX10_feed 86 = .ok (.iaload, 1) := by decide +kernel
theorem dX10_feed_87 : decode cX10_feed 87 = .ok (.bipush 24, 2) := by decide +kernel
theorem dX10_feed_89 : decode cX10_feed 89 = .ok (.bipush 8, 2) := by decide +kernel
theorem dX10_feed_91 : decode cX10_feed 91 = .ok (.iload 6, 2) := by decide +kernel
theorem dX10_feed_93 : decode cX10_feed 93 = .ok (.iconst 4, 1) := by decide +kernel
theorem dX10_feed_94 : decode cX10_feed 94 = .ok (.irem, 1) := by decide +kernel
theorem dX10_feed_95 : decode cX10_feed 95 = .ok (.imul, 1) := by decide +kernel
theorem dX10_feed_96 : decode cX10_feed 96 = .ok (.isub, 1) := by decide +kernel
theorem dX10_feed_97 : decode cX10_feed 97 = .ok (.ishr, 1) := by decide +kernel
theorem dX10_feed_98 : decode cX10_feed 98 = .ok (.i2b, 1) := by decide +kernel
theorem dX10_feed_99 : decode cX10_feed 99 = .ok (.bastore, 1) := by decide +kernel
theorem dX10_feed_100 : decode cX10_feed 100 = .ok (.iinc 6 1, 3) := by decide +kernel
theorem dX10_feed_103 : decode cX10_feed 103 = .ok (.goto (-43), 3) := by decide +kernel
theorem dX10_feed_0 : decode cX10_feed 0 = .ok (.aload_n 0, 1) := by decide +kernel
theorem dX10_feed_1 : decode cX10_feed 1 = .ok (.iconst 0, 1) := by decide +kernel
theorem dX10_feed_2 : decode cX10_feed 2 = .ok (.putfield 3, 3) := by decide +kernel
theorem dX10_feed_5 : decode cX10_feed 5 = .ok (.aload_n 0, 1) := by decide +kernel
theorem dX10_feed_6 : decode cX10_feed 6 = .ok (.getfield 86, 3) := by decide +kernel
theorem dX10_feed_9 : decode cX10_feed 9 = .ok (.bipush 20, 2) := by decide +kernel
theorem dX10_feed_11 : decode cX10_feed 11 = .ok (.iadd, 1) := by decide +kernel
theorem dX10_feed_12 : decode cX10_feed 12 = .ok (.sipush 400, 3) := by decide +kernel
theorem dX10_feed_15 : decode cX10_feed 15 = .ok (.if_icmp .le 5, 3) := by decide +kernel
theorem dX10_feed_20 : decode cX10_feed 20 = .ok (.aload_n 0, 1) := by decide +kernel
theorem dX10_feed_21 : decode cX10_feed 21 = .ok (.getfield 36, 3) := by decide +kernel
theorem dX10_feed_24 : decode cX10_feed 24 = .ok (.iconst 0, 1) := by decide +kernel
theorem dX10_feed_25 : decode cX10_feed 25 = .ok (.iload_n 1, 1) := by decide +kernel
theorem dX10_feed_26 : decode cX10_feed 26 = .ok (.iastore, 1) := by decide +kernel
theorem dX10_feed_27 : decode cX10_feed 27 = .ok (.aload_n 0, 1) := by decide +kernel
theorem dX10_feed_28 : decode cX10_feed 28 = .ok (.getfield 36, 3) := by decide +kernel
theorem dX10_feed_31 : decode cX10_feed 31 = .ok (.iconst 1, 1) := by decide +kernel
theorem dX10_feed_32 : decode cX10_feed 32 = .ok (.iload_n 2, 1) := by decide +kernel
theorem dX10_feed_33 : decode cX10_feed 33 = .ok (.iastore, 1) := by decide +kernel
theorem dX10_feed_34 : decode cX10_feed 34 = .ok (.aload_n 0, 1) := by decide +kernel
theorem dX10_feed_35 : decode cX10_feed 35 = .ok (.getfield 36, 3) := by decide +kernel
theorem dX10_feed_38 : decode cX10_feed 38 = .ok (.iconst 2, 1) := by decide +kernel
theorem dX10_feed_39 : decode cX10_feed 39 = .ok (.iload_n 3, 1) := by decide +kernel
theorem dX10_feed_40 : decode cX10_feed 40 = .ok (.iastore, 1) := by decide +kernel
theorem dX10_feed_41 : decode cX10_feed 41 = .ok (.aload_n 0, 1) := by decide +kernel
theorem dX10_feed_42 : decode cX10_feed 42 = .ok (.getfield 36, 3) := by decide +kernel
theorem dX10_feed_45 : decode cX10_feed 45 = .ok (.iconst 3, 1) := by decide +kernel
theorem dX10_feed_46 : decode cX10_feed 46 = .ok (.iload 4, 2) := by decide +kernel
theorem dX10_feed_48 : decode cX10_feed 48 = .ok (.iastore, 1) := by decide +kernel
theorem dX10_feed_49 : decode cX10_feed 49 = .ok (.aload_n 0, 1) := by decide +kernel
theorem dX10_feed_50 : decode cX10_feed 50 = .ok (.getfield 36, 3) := by decide +kernel
theorem dX10_feed_53 : decode cX10_feed 53 = .ok (.iconst 4, 1) := by decide +kernel
theorem dX10_feed_54 : decode cX10_feed 54 = .ok (.iload 5, 2) := by decide +kernel
theorem dX10_feed_56 : decode cX10_feed 56 = .ok (.iastore, 1) := by decide +kernel
theorem dX10_feed_57 : decode cX10_feed 57 = .ok (.iconst 0, 1) := by decide +kernel
theorem dX10_feed_58 : decode cX10_feed 58 = .ok (.istore 6, 2) := by decide +kernel
theorem dX10_feed_106 : decode cX10_feed 106 = .ok (.aload_n 0, 1) := by decide +kernel
theorem dX10_feed_107 : decode cX10_feed 107 = .ok (.dup, 1) := by decide +kernel
theorem dX10_feed_108 : decode cX10_feed 108 = .ok (.getfield 86, 3) := by decide +kernel
theorem dX10_feed_111 : decode cX10_feed 111 = .ok (.bipush 20, 2) := by decide +kernel
theorem dX10_feed_113 : decode cX10_feed 113 = .ok (.iadd, 1) := by decide +kernel
theorem dX10_feed_114 : decode cX10_feed 114 = .ok (.putfield 86, 3) := by decide +kernel
theorem dX10_feed_117 : decode cX10_feed 117 = .ok (.aload_n 0, 1) := by decide +kernel
theorem dX10_feed_118 : decode cX10_feed 118 = .ok (.getfield 86, 3) := by decide +kernel
theorem dX10_feed_121 : decode cX10_feed 121 = .ok (.ireturn, 1) := by decide +kernel
theorem dX10_feed_18 : decode cX10_feed 18 = .ok (.iconst (-1), 1) := by decide +kernel
theorem dX10_feed_19 : decode cX10_feed 19 = .ok (.ireturn, 1) := by decide +kernel
/-! feed and end on both sides: what is kept are the tapes, byte for byte -/
/-! the bytes of a number -/
def bt (v : Int32) (s : Nat) : Nat := v.toBitVec.toNat / 2 ^ s % 256
theorem bt_lt (v : Int32) (s : Nat) : bt v s < 256 := Nat.mod_lt _ (by decide)
theorem and255 (n : Nat) : n &&& 255 = n % 256 := Nat.and_two_pow_sub_one_eq_mod n 8
theorem btA_24 (v : Int32) : (v.toUInt32 >>> ((nI 24).toUInt32 &&& Int32.toUInt32 31)).toInt32 &&& nI 255 = nI (bt v 24) := by
  apply Int32.toBitVec_inj.mp
  rw [Int32.toBitVec_and]
  have e1 : ((v.toUInt32 >>> ((nI 24).toUInt32 &&& Int32.toUInt32 31)).toInt32).toBitVec = v.toBitVec >>> (24 : Nat) := by
    show (v.toUInt32 >>> ((nI 24).toUInt32 &&& Int32.toUInt32 31)).toBitVec = _
    rw [show ((nI 24).toUInt32 &&& Int32.toUInt32 31) = (24 : UInt32) by decide, UInt32.toBitVec_shiftRight]
    rfl
  rw [e1]
  apply BitVec.eq_of_toNat_eq
  rw [BitVec.toNat_and, BitVec.toNat_ushiftRight, Nat.shiftRight_eq_div_pow]
  have a1 : (nI 255).toBitVec.toNat = 255 := by decide
  have a2 : (nI (bt v 24)).toBitVec.toNat = bt v 24 := by
    show (BitVec.ofNat 32 (bt v 24)).toNat = _
    rw [BitVec.toNat_ofNat, Nat.mod_eq_of_lt]
    have := bt_lt v 24
    omega
  rw [a1, a2, and255]
  rfl
theorem btC_24 (v : Int32) : (v >>> (nI 24 &&& 31)).toInt8.toBitVec = BitVec.ofNat 8 (bt v 24) := by
  rw [show (nI 24 &&& 31 : Int32) = 24 by decide, Int32.toBitVec_toInt8]
  have e1 : (v >>> (24 : Int32)).toBitVec = v.toBitVec.sshiftRight 24 := by
    rw [Int32.toBitVec_shiftRight]
    rfl
  rw [e1, BitVec.signExtend_eq_setWidth_of_le _ (by decide)]
  apply BitVec.eq_of_toNat_eq
  rw [BitVec.toNat_ofNat]
  have e2 : (v.toBitVec.sshiftRight 24).setWidth 8 = (v.toBitVec >>> (24 : Nat)).setWidth 8 := by
    apply BitVec.eq_of_getLsbD_eq
    intro i hi
    rw [BitVec.getLsbD_setWidth, BitVec.getLsbD_setWidth, BitVec.getLsbD_sshiftRight, BitVec.getLsbD_ushiftRight]
    have h1 : ¬ 32 ≤ i := by omega
    have h2 : 24 + i < 32 := by omega
    have h3 : i < 32 := by omega
    simp [h1, h2, h3]
  rw [e2, BitVec.toNat_setWidth, BitVec.toNat_ushiftRight, Nat.shiftRight_eq_div_pow]
  unfold bt
  omega
theorem btA_16 (v : Int32) : (v.toUInt32 >>> ((nI 16).toUInt32 &&& Int32.toUInt32 31)).toInt32 &&& nI 255 = nI (bt v 16) := by
  apply Int32.toBitVec_inj.mp
  rw [Int32.toBitVec_and]
  have e1 : ((v.toUInt32 >>> ((nI 16).toUInt32 &&& Int32.toUInt32 31)).toInt32).toBitVec = v.toBitVec >>> (16 : Nat) := by
    show (v.toUInt32 >>> ((nI 16).toUInt32 &&& Int32.toUInt32 31)).toBitVec = _
    rw [show ((nI 16).toUInt32 &&& Int32.toUInt32 31) = (16 : UInt32) by decide, UInt32.toBitVec_shiftRight]
    rfl
  rw [e1]
  apply BitVec.eq_of_toNat_eq
  rw [BitVec.toNat_and, BitVec.toNat_ushiftRight, Nat.shiftRight_eq_div_pow]
  have a1 : (nI 255).toBitVec.toNat = 255 := by decide
  have a2 : (nI (bt v 16)).toBitVec.toNat = bt v 16 := by
    show (BitVec.ofNat 32 (bt v 16)).toNat = _
    rw [BitVec.toNat_ofNat, Nat.mod_eq_of_lt]
    have := bt_lt v 16
    omega
  rw [a1, a2, and255]
  rfl
theorem btC_16 (v : Int32) : (v >>> (nI 16 &&& 31)).toInt8.toBitVec = BitVec.ofNat 8 (bt v 16) := by
  rw [show (nI 16 &&& 31 : Int32) = 16 by decide, Int32.toBitVec_toInt8]
  have e1 : (v >>> (16 : Int32)).toBitVec = v.toBitVec.sshiftRight 16 := by
    rw [Int32.toBitVec_shiftRight]
    rfl
  rw [e1, BitVec.signExtend_eq_setWidth_of_le _ (by decide)]
  apply BitVec.eq_of_toNat_eq
  rw [BitVec.toNat_ofNat]
  have e2 : (v.toBitVec.sshiftRight 16).setWidth 8 = (v.toBitVec >>> (16 : Nat)).setWidth 8 := by
    apply BitVec.eq_of_getLsbD_eq
    intro i hi
    rw [BitVec.getLsbD_setWidth, BitVec.getLsbD_setWidth, BitVec.getLsbD_sshiftRight, BitVec.getLsbD_ushiftRight]
    have h1 : ¬ 32 ≤ i := by omega
    have h2 : 16 + i < 32 := by omega
    have h3 : i < 32 := by omega
    simp [h1, h2, h3]
  rw [e2, BitVec.toNat_setWidth, BitVec.toNat_ushiftRight, Nat.shiftRight_eq_div_pow]
  unfold bt
  omega
theorem btA_8 (v : Int32) : (v.toUInt32 >>> ((nI 8).toUInt32 &&& Int32.toUInt32 31)).toInt32 &&& nI 255 = nI (bt v 8) := by
  apply Int32.toBitVec_inj.mp
  rw [Int32.toBitVec_and]
  have e1 : ((v.toUInt32 >>> ((nI 8).toUInt32 &&& Int32.toUInt32 31)).toInt32).toBitVec = v.toBitVec >>> (8 : Nat) := by
    show (v.toUInt32 >>> ((nI 8).toUInt32 &&& Int32.toUInt32 31)).toBitVec = _
    rw [show ((nI 8).toUInt32 &&& Int32.toUInt32 31) = (8 : UInt32) by decide, UInt32.toBitVec_shiftRight]
    rfl
  rw [e1]
  apply BitVec.eq_of_toNat_eq
  rw [BitVec.toNat_and, BitVec.toNat_ushiftRight, Nat.shiftRight_eq_div_pow]
  have a1 : (nI 255).toBitVec.toNat = 255 := by decide
  have a2 : (nI (bt v 8)).toBitVec.toNat = bt v 8 := by
    show (BitVec.ofNat 32 (bt v 8)).toNat = _
    rw [BitVec.toNat_ofNat, Nat.mod_eq_of_lt]
    have := bt_lt v 8
    omega
  rw [a1, a2, and255]
  rfl
theorem btC_8 (v : Int32) : (v >>> (nI 8 &&& 31)).toInt8.toBitVec = BitVec.ofNat 8 (bt v 8) := by
  rw [show (nI 8 &&& 31 : Int32) = 8 by decide, Int32.toBitVec_toInt8]
  have e1 : (v >>> (8 : Int32)).toBitVec = v.toBitVec.sshiftRight 8 := by
    rw [Int32.toBitVec_shiftRight]
    rfl
  rw [e1, BitVec.signExtend_eq_setWidth_of_le _ (by decide)]
  apply BitVec.eq_of_toNat_eq
  rw [BitVec.toNat_ofNat]
  have e2 : (v.toBitVec.sshiftRight 8).setWidth 8 = (v.toBitVec >>> (8 : Nat)).setWidth 8 := by
    apply BitVec.eq_of_getLsbD_eq
    intro i hi
    rw [BitVec.getLsbD_setWidth, BitVec.getLsbD_setWidth, BitVec.getLsbD_sshiftRight, BitVec.getLsbD_ushiftRight]
    have h1 : ¬ 32 ≤ i := by omega
    have h2 : 8 + i < 32 := by omega
    have h3 : i < 32 := by omega
    simp [h1, h2, h3]
  rw [e2, BitVec.toNat_setWidth, BitVec.toNat_ushiftRight, Nat.shiftRight_eq_div_pow]
  unfold bt
  omega
theorem btA_0 (v : Int32) : (v.toUInt32 >>> ((nI 0).toUInt32 &&& Int32.toUInt32 31)).toInt32 &&& nI 255 = nI (bt v 0) := by
  apply Int32.toBitVec_inj.mp
  rw [Int32.toBitVec_and]
  have e1 : ((v.toUInt32 >>> ((nI 0).toUInt32 &&& Int32.toUInt32 31)).toInt32).toBitVec = v.toBitVec >>> (0 : Nat) := by
    show (v.toUInt32 >>> ((nI 0).toUInt32 &&& Int32.toUInt32 31)).toBitVec = _
    rw [show ((nI 0).toUInt32 &&& Int32.toUInt32 31) = (0 : UInt32) by decide, UInt32.toBitVec_shiftRight]
    rfl
  rw [e1]
  apply BitVec.eq_of_toNat_eq
  rw [BitVec.toNat_and, BitVec.toNat_ushiftRight, Nat.shiftRight_eq_div_pow]
  have a1 : (nI 255).toBitVec.toNat = 255 := by decide
  have a2 : (nI (bt v 0)).toBitVec.toNat = bt v 0 := by
    show (BitVec.ofNat 32 (bt v 0)).toNat = _
    rw [BitVec.toNat_ofNat, Nat.mod_eq_of_lt]
    have := bt_lt v 0
    omega
  rw [a1, a2, and255]
  rfl
theorem btC_0 (v : Int32) : (v >>> (nI 0 &&& 31)).toInt8.toBitVec = BitVec.ofNat 8 (bt v 0) := by
  rw [show (nI 0 &&& 31 : Int32) = 0 by decide, Int32.toBitVec_toInt8]
  have e1 : (v >>> (0 : Int32)).toBitVec = v.toBitVec.sshiftRight 0 := by
    rw [Int32.toBitVec_shiftRight]
    rfl
  rw [e1, BitVec.signExtend_eq_setWidth_of_le _ (by decide)]
  apply BitVec.eq_of_toNat_eq
  rw [BitVec.toNat_ofNat]
  have e2 : (v.toBitVec.sshiftRight 0).setWidth 8 = (v.toBitVec >>> (0 : Nat)).setWidth 8 := by
    apply BitVec.eq_of_getLsbD_eq
    intro i hi
    rw [BitVec.getLsbD_setWidth, BitVec.getLsbD_setWidth, BitVec.getLsbD_sshiftRight, BitVec.getLsbD_ushiftRight]
    have h1 : ¬ 32 ≤ i := by omega
    have h2 : 0 + i < 32 := by omega
    have h3 : i < 32 := by omega
    simp [h1, h2, h3]
  rw [e2, BitVec.toNat_setWidth, BitVec.toNat_ushiftRight, Nat.shiftRight_eq_div_pow]
  unfold bt
  omega
theorem sb_all : ∀ b : Fin 256, (Int8.ofBitVec (BitVec.ofNat 8 b)).toInt32 = sb b ∧ (sb b).toInt8.toInt32 = sb b := by decide +kernel
theorem btB (v : Int32) (r : Nat) (hr : r < 4) : vp_nar .byte ((v >>> (nI (24 - 8 * r) &&& 31)).toInt8.toInt32) = sb (bt v (24 - 8 * r)) := by
  have key : ∀ s : Nat, (v >>> (nI s &&& 31)).toInt8.toBitVec = BitVec.ofNat 8 (bt v s) → vp_nar .byte ((v >>> (nI s &&& 31)).toInt8.toInt32) = sb (bt v s) := by
    intro s h
    have h1 : (v >>> (nI s &&& 31)).toInt8 = Int8.ofBitVec (BitVec.ofNat 8 (bt v s)) := Int8.toBitVec_inj.mp h
    rw [h1]
    have h2 := sb_all ⟨bt v s, bt_lt v s⟩
    have h3 : (Int8.ofBitVec (BitVec.ofNat 8 (bt v s))).toInt32 = sb (bt v s) := h2.1
    rw [h3]
    exact h2.2
  match r, hr with
  | 0, _ => exact key 24 (btC_24 v)
  | 1, _ => exact key 16 (btC_16 v)
  | 2, _ => exact key 8 (btC_8 v)
  | 3, _ => exact key 0 (btC_0 v)
def pv (p0 p1 p2 p3 p4 : Int32) (k : Nat) : Int32 := if k = 0 then p0 else if k = 1 then p1 else if k = 2 then p2 else if k = 3 then p3 else p4
def fb (p0 p1 p2 p3 p4 : Int32) (k : Nat) : Nat := bt (pv p0 p1 p2 p3 p4 (k / 4)) (24 - 8 * (k % 4))
theorem fb_at {p0 p1 p2 p3 p4 : Int32} {j r : Nat} (hr : r < 4) : fb p0 p1 p2 p3 p4 (4 * j + r) = bt (pv p0 p1 p2 p3 p4 j) (24 - 8 * r) := by
  unfold fb
  rw [show (4 * j + r) / 4 = j by omega, show (4 * j + r) % 4 = r by omega]
/-- what feed leaves: of the class, of the reference -/
def FX (I : Hi) (f : Nat → Nat) (x : Int32) (J : Hi) : Prop := BX J ∧ XM J ∧ (∀ a, a ≠ 1 → a ≠ 2 → J a = I a) ∧ ∃ l, l ≤ 400 ∧ I 1 1 = nI l ∧ ((400 < l + 20 ∧ x = -1 ∧ J 1 1 = I 1 1 ∧ J 2 = I 2) ∨ (l + 20 ≤ 400 ∧ x = nI (l + 20) ∧ J 1 1 = nI (l + 20) ∧ (∀ i, i < l → J 2 i = I 2 i) ∧ ∀ i, l ≤ i → i < l + 20 → J 2 i = nI (f (i - l))))
def FM (I : Hi) (f : Nat → Nat) (x : Int32) (J : Hi) : Prop := BX J ∧ XM J ∧ (∀ a, a ≠ 94 → a ≠ 100 → a ≠ 101 → J a = I a) ∧ (∃ l, l ≤ 400 ∧ I 94 9 = nI l ∧ ((400 < l + 20 ∧ x = -1 ∧ J 94 9 = I 94 9 ∧ J 100 = I 100) ∨ (l + 20 ≤ 400 ∧ x = nI (l + 20) ∧ J 94 9 = nI (l + 20) ∧ (∀ i, i < l → J 100 i = I 100 i) ∧ ∀ i, l ≤ i → i < l + 20 → J 100 i = sb (f (i - l))))) ∧ ∀ j, j ≠ 0 → j ≠ 9 → J 94 j = I 94 j
def endP (n old new x : Int32) : Prop := (¬ n < 0 ∧ n ≤ old ∧ x = 1 ∧ new = n) ∨ (¬ (¬ n < 0 ∧ n ≤ old) ∧ x = 0 ∧ new = old)
theorem endP.eq {n a b c x y : Int32} (h1 : endP n a b x) (h2 : endP n a c y) : x = y ∧ b = c := by
  rcases h1 with ⟨a1, a2, rfl, rfl⟩ | ⟨a1, rfl, rfl⟩
  · rcases h2 with ⟨-, -, rfl, rfl⟩ | ⟨b1, -, -⟩
    · exact ⟨rfl, rfl⟩
    · exact absurd ⟨a1, a2⟩ b1
  · rcases h2 with ⟨b1, b2, -, -⟩ | ⟨-, rfl, rfl⟩
    · exact absurd ⟨b1, b2⟩ a1
    · exact ⟨rfl, rfl⟩
section Tap
variable (G : Gx) (d : Nat) (I : Hi)
theorem xd_end (n : Int32) (hB : BX I) (hX : XM I) : Ct G GAM mX9_end d 0 [.ref 0, .int n] I (Rv (fun v J => ∃ x, v = some (.int x) ∧ BX J ∧ XM J ∧ (∀ a, a ≠ 1 → J a = I a) ∧ endP n (I 1 1) (J 1 1) x)) := by
  have h11 : (0 : Int) ≤ (I 1 1).toInt ∧ (I 1 1).toInt ≤ 400 := hB 1 1
  refine Ct.mk [some (.ref 0), some (.int n)] ?_
  refine Rn.iload_n dX9_end_0 rfl rfl ?_
  refine Rn.if_lt (tgt := 15) dX9_end_1 (by decide) (fun h1 => ?_) (fun h1 => ?_)
  · refine Rn.iconst (v := (nI 0)) dX9_end_15 rfl ?_
    exact Rn.zret dX9_end_16 rfl rfl (⟨0, rfl, hB, hX, fun _ _ => rfl, Or.inr ⟨fun q => q.1 h1, rfl, rfl⟩⟩)
  · refine Rn.iload_n dX9_end_4 rfl rfl ?_
    refine Rn.aload_n dX9_end_5 rfl rfl ?_
    refine Rn.getR dX9_end_6 fd_X9_10_8 (by first | rfl | exact gC0 (by assumption) | exact gL0 (by assumption)) rfl ?_
    refine Rn.getI dX9_end_9 fd_X9_84_7 (by first | rfl | exact gC0 (by assumption) | exact gL0 (by assumption)) rfl ?_
    refine Rn.icmp_le (tgt := 17) dX9_end_12 (by decide) (fun h2 => ?_) (fun h2 => ?_)
    · have hn : inIv (0, 400) n := by
        have a1 := Int32.le_iff_toInt_le.mp (Int32.not_lt.mp h1)
        have a2 := Int32.le_iff_toInt_le.mp h2
        rw [Int32.toInt_zero] at a1
        exact ⟨a1, by show _ ≤ (400 : Int); omega⟩
      refine Rn.aload_n dX9_end_17 rfl rfl ?_
      refine Rn.getR dX9_end_18 fd_X9_10_8 (by first | rfl | exact gC0 (by assumption) | exact gL0 (by assumption)) rfl ?_
      refine Rn.iload_n dX9_end_21 rfl rfl ?_
      refine Rn.putI dX9_end_22 fp_X9_84_7 (by first | rfl | exact gC0 (by assumption) | exact gL0 (by assumption)) rfl ?_
      refine Rn.iconst (v := (nI 1)) dX9_end_25 rfl ?_
      exact Rn.zret dX9_end_26 rfl rfl (⟨1, rfl, BX.up (a := 1) (j := 1) hB hn, XM.up hX (by decide), fun a ha => by rw [zup_ne _ _ ha], Or.inl ⟨h1, h2, rfl, by rw [zup_at, upd_at]⟩⟩)
    · refine Rn.iconst (v := (nI 0)) dX9_end_15 rfl ?_
      exact Rn.zret dX9_end_16 rfl rfl (⟨0, rfl, hB, hX, fun _ _ => rfl, Or.inr ⟨fun q => h2 q.2, rfl, rfl⟩⟩)
theorem mo_end (n : Int32) (hB : BX I) (hX : XM I) : Ct G GAM mX10_end d 0 [.ref 94, .int n] I (Rv (fun v J => ∃ x, v = some (.int x) ∧ BX J ∧ XM J ∧ (∀ a, a ≠ 94 → J a = I a) ∧ endP n (I 94 9) (J 94 9) x ∧ ∀ j, j ≠ 0 → j ≠ 9 → J 94 j = I 94 j)) := by
  have h9 : (0 : Int) ≤ (I 94 9).toInt ∧ (I 94 9).toInt ≤ 400 := hB 94 9
  refine (ct_end G d I n).weak (fun o J h => ?_)
  obtain ⟨rfl, rfl⟩ := h
  refine ⟨_, rfl, ?_⟩
  by_cases q : ¬ n < 0 ∧ n ≤ I 94 9
  · have hn : inIv (0, 400) n := by
      have a1 := Int32.le_iff_toInt_le.mp (Int32.not_lt.mp q.1)
      have a2 := Int32.le_iff_toInt_le.mp q.2
      rw [Int32.toInt_zero] at a1
      exact ⟨a1, by show _ ≤ (400 : Int); omega⟩
    rw [if_pos q, bI_t q]
    exact ⟨BX.up (a := 94) (j := 9) (BX.thr hB _) hn, XM.up (XM.up hX (by decide)) (by decide), fun a ha => by rw [zup_ne _ _ ha, zup_ne _ _ ha], Or.inl ⟨q.1, q.2, rfl, by rw [zup_at, upd_at]⟩, fun j a1 a2 => by rw [zup_at, upd_ne _ _ a2, zup_at, upd_ne _ _ a1]⟩
  · rw [if_neg q, bI_f q]
    exact ⟨BX.thr hB _, XM.up hX (by decide), fun a ha => by rw [zup_ne _ _ ha], Or.inr ⟨q, rfl, by rw [zup_at, upd_ne _ _ (by decide)]⟩, fun j a1 a2 => by rw [zup_at, upd_ne _ _ a1]⟩
/-- while the class writes bytes -/
def TP (I0 : Hi) (l0 : Nat) (f : Nat → Nat) (l : Nat) (J : Hi) : Prop := J 1 1 = nI l ∧ BX J ∧ XM J ∧ (∀ a, a ≠ 1 → a ≠ 2 → J a = I0 a) ∧ (∀ i, i < l0 → J 2 i = I0 2 i) ∧ ∀ i, l0 ≤ i → i < l → J 2 i = nI (f (i - l0))
theorem TP.nx {I0 J : Hi} {l0 l : Nat} {f : Nat → Nat} (h : TP I0 l0 f l J) (hl : l < 400) (h0 : l0 ≤ l) {x : Int32} (hx : x = nI (f (l - l0))) : TP I0 l0 f (l + 1) (zup (zup J 2 l x) 1 1 (nI (l + 1))) := by
  obtain ⟨h1, h2, h3, h4, h5, h6⟩ := h
  refine ⟨by rw [zup_at, upd_at], BX.up (a := 1) (j := 1) (BX.up (a := 2) (j := l) h2 (inIv_F _)) (iv_nI (n := 400) (by omega) (by decide)), XM.up (XM.up h3 (by decide)) (by decide), fun a a1 a2 => by rw [zup_ne _ _ a1, zup_ne _ _ a2]; exact h4 a a1 a2, fun i hi => by rw [zup_ne _ _ (by decide), zup_at, upd_ne _ _ (by omega)]; exact h5 i hi, fun i hi hi2 => ?_⟩
  rw [zup_ne _ _ (by decide), zup_at]
  by_cases e : i = l
  · subst e; rw [upd_at]; exact hx
  · rw [upd_ne _ _ e]; exact h6 i hi (by omega)
theorem pt_24 {kx : Kx} {b : Nat} {I0 : Hi} {l0 : Nat} {f : Nat → Nat} (v : Int32) (l : Nat) (hl : l < 400) (h0 : l0 ≤ l) (h : TP I0 l0 f l I) (hf : f (l - l0) = bt v 24) (kk : ∀ J, TP I0 l0 f (l + 1) J → Rn G GAM mX8_put kx d b 3 [some (.ref 1), some (.int v), some (.int (nI 16))] [] J) : Rn G GAM mX8_put kx d b 3 [some (.ref 1), some (.int v), some (.int (nI 24))] [] I := by
  refine Rn.iload_n dX8_put_3 rfl rfl ?_
  refine Rn.if_lt (tgt := 56) dX8_put_4 (by decide) (fun h9 => absurd h9 (by decide)) (fun _ => ?_)
  refine Rn.aload_n dX8_put_7 rfl rfl ?_
  refine Rn.getI dX8_put_8 fd_X8_15_7 (by first | rfl | exact gC0 (by assumption) | exact gL0 (by assumption)) rfl ?_
  refine Rn.topI (nI l) (by exact h.1) ?_
  refine Rn.if_ltN dX8_put_11 ?_ 50
  refine Rn.aload_n dX8_put_14 rfl rfl ?_
  refine Rn.getI dX8_put_15 fd_X8_15_7 (by first | rfl | exact gC0 (by assumption) | exact gL0 (by assumption)) rfl ?_
  refine Rn.topI (nI l) (by exact h.1) ?_
  refine Rn.sipush (v := (nI 400)) dX8_put_18 rfl ?_
  refine Rn.icmp_geN dX8_put_21 50 (fun h9 => by exfalso; omega) (fun _ => ?_)
  refine Rn.aload_n dX8_put_24 rfl rfl ?_
  refine Rn.getR dX8_put_25 fd_X8_9_7 (by first | rfl | exact gC0 (by assumption) | exact gL0 (by assumption)) rfl ?_
  refine Rn.aload_n dX8_put_28 rfl rfl ?_
  refine Rn.getI dX8_put_29 fd_X8_15_7 (by first | rfl | exact gC0 (by assumption) | exact gL0 (by assumption)) rfl ?_
  refine Rn.topI (nI l) (by exact h.1) ?_
  refine Rn.iload_n dX8_put_32 rfl rfl ?_
  refine Rn.iload_n dX8_put_33 rfl rfl ?_
  refine Rn.iushr dX8_put_34 ?_
  refine Rn.sipush (v := (nI 255)) dX8_put_35 rfl ?_
  refine Rn.iand dX8_put_38 ?_
  refine Rn.topI (nI (bt v 24)) (by exact btA_24 v) ?_
  refine Rn.iastN dX8_put_39 (by first | rfl | exact gC1 (by assumption) | exact gC2 (by assumption) | exact gC3 (by assumption) | exact gL1 (by assumption) | exact gL2 (by assumption) | exact gL3 (by assumption) | exact gL4 (by assumption) | exact gL5 (by assumption) | exact gL6 (by assumption)) ?_
  refine Rn.aload_n dX8_put_40 rfl rfl ?_
  refine Rn.dup dX8_put_41 rfl ?_
  refine Rn.getI dX8_put_42 fd_X8_15_7 (by first | rfl | exact gC0 (by assumption) | exact gL0 (by assumption)) rfl ?_
  refine Rn.topI (nI l) (by rw [zup_ne _ _ (by decide)]; exact h.1) ?_
  refine Rn.iconst (v := (nI 1)) dX8_put_45 rfl ?_
  refine Rn.iadd dX8_put_46 ?_
  refine Rn.topI (nI (l + 1)) (by exact nI_1 l) ?_
  refine Rn.putI dX8_put_47 fp_X8_15_7 (by first | rfl | exact gC0 (by assumption) | exact gL0 (by assumption)) rfl ?_
  refine Rn.iinc (v := (nI 16)) dX8_put_50 rfl (by decide) (by decide) ?_
  refine Rn.goto 3 dX8_put_53 (by decide) ?_
  exact kk _ (h.nx hl h0 (by rw [hf]))
theorem pt_16 {kx : Kx} {b : Nat} {I0 : Hi} {l0 : Nat} {f : Nat → Nat} (v : Int32) (l : Nat) (hl : l < 400) (h0 : l0 ≤ l) (h : TP I0 l0 f l I) (hf : f (l - l0) = bt v 16) (kk : ∀ J, TP I0 l0 f (l + 1) J → Rn G GAM mX8_put kx d b 3 [some (.ref 1), some (.int v), some (.int (nI 8))] [] J) : Rn G GAM mX8_put kx d b 3 [some (.ref 1), some (.int v), some (.int (nI 16))] [] I := by
  refine Rn.iload_n dX8_put_3 rfl rfl ?_
  refine Rn.if_lt (tgt := 56) dX8_put_4 (by decide) (fun h9 => absurd h9 (by decide)) (fun _ => ?_)
  refine Rn.aload_n dX8_put_7 rfl rfl ?_
  refine Rn.getI dX8_put_8 fd_X8_15_7 (by first | rfl | exact gC0 (by assumption) | exact gL0 (by assumption)) rfl ?_
  refine Rn.topI (nI l) (by exact h.1) ?_
  refine Rn.if_ltN dX8_put_11 ?_ 50
  refine Rn.aload_n dX8_put_14 rfl rfl ?_
  refine Rn.getI dX8_put_15 fd_X8_15_7 (by first | rfl | exact gC0 (by assumption) | exact gL0 (by assumption)) rfl ?_
  refine Rn.topI (nI l) (by exact h.1) ?_
  refine Rn.sipush (v := (nI 400)) dX8_put_18 rfl ?_
  refine Rn.icmp_geN dX8_put_21 50 (fun h9 => by exfalso; omega) (fun _ => ?_)
  refine Rn.aload_n dX8_put_24 rfl rfl ?_
  refine Rn.getR dX8_put_25 fd_X8_9_7 (by first | rfl | exact gC0 (by assumption) | exact gL0 (by assumption)) rfl ?_
  refine Rn.aload_n dX8_put_28 rfl rfl ?_
  refine Rn.getI dX8_put_29 fd_X8_15_7 (by first | rfl | exact gC0 (by assumption) | exact gL0 (by assumption)) rfl ?_
  refine Rn.topI (nI l) (by exact h.1) ?_
  refine Rn.iload_n dX8_put_32 rfl rfl ?_
  refine Rn.iload_n dX8_put_33 rfl rfl ?_
  refine Rn.iushr dX8_put_34 ?_
  refine Rn.sipush (v := (nI 255)) dX8_put_35 rfl ?_
  refine Rn.iand dX8_put_38 ?_
  refine Rn.topI (nI (bt v 16)) (by exact btA_16 v) ?_
  refine Rn.iastN dX8_put_39 (by first | rfl | exact gC1 (by assumption) | exact gC2 (by assumption) | exact gC3 (by assumption) | exact gL1 (by assumption) | exact gL2 (by assumption) | exact gL3 (by assumption) | exact gL4 (by assumption) | exact gL5 (by assumption) | exact gL6 (by assumption)) ?_
  refine Rn.aload_n dX8_put_40 rfl rfl ?_
  refine Rn.dup dX8_put_41 rfl ?_
  refine Rn.getI dX8_put_42 fd_X8_15_7 (by first | rfl | exact gC0 (by assumption) | exact gL0 (by assumption)) rfl ?_
  refine Rn.topI (nI l) (by rw [zup_ne _ _ (by decide)]; exact h.1) ?_
  refine Rn.iconst (v := (nI 1)) dX8_put_45 rfl ?_
  refine Rn.iadd dX8_put_46 ?_
  refine Rn.topI (nI (l + 1)) (by exact nI_1 l) ?_
  refine Rn.putI dX8_put_47 fp_X8_15_7 (by first | rfl | exact gC0 (by assumption) | exact gL0 (by assumption)) rfl ?_
  refine Rn.iinc (v := (nI 8)) dX8_put_50 rfl (by decide) (by decide) ?_
  refine Rn.goto 3 dX8_put_53 (by decide) ?_
  exact kk _ (h.nx hl h0 (by rw [hf]))
theorem pt_8 {kx : Kx} {b : Nat} {I0 : Hi} {l0 : Nat} {f : Nat → Nat} (v : Int32) (l : Nat) (hl : l < 400) (h0 : l0 ≤ l) (h : TP I0 l0 f l I) (hf : f (l - l0) = bt v 8) (kk : ∀ J, TP I0 l0 f (l + 1) J → Rn G GAM mX8_put kx d b 3 [some (.ref 1), some (.int v), some (.int (nI 0))] [] J) : Rn G GAM mX8_put kx d b 3 [some (.ref 1), some (.int v), some (.int (nI 8))] [] I := by
  refine Rn.iload_n dX8_put_3 rfl rfl ?_
  refine Rn.if_lt (tgt := 56) dX8_put_4 (by decide) (fun h9 => absurd h9 (by decide)) (fun _ => ?_)
  refine Rn.aload_n dX8_put_7 rfl rfl ?_
  refine Rn.getI dX8_put_8 fd_X8_15_7 (by first | rfl | exact gC0 (by assumption) | exact gL0 (by assumption)) rfl ?_
  refine Rn.topI (nI l) (by exact h.1) ?_
  refine Rn.if_ltN dX8_put_11 ?_ 50
  refine Rn.aload_n dX8_put_14 rfl rfl ?_
  refine Rn.getI dX8_put_15 fd_X8_15_7 (by first | rfl | exact gC0 (by assumption) | exact gL0 (by assumption)) rfl ?_
  refine Rn.topI (nI l) (by exact h.1) ?_
  refine Rn.sipush (v := (nI 400)) dX8_put_18 rfl ?_
  refine Rn.icmp_geN dX8_put_21 50 (fun h9 => by exfalso; omega) (fun _ => ?_)
  refine Rn.aload_n dX8_put_24 rfl rfl ?_
  refine Rn.getR dX8_put_25 fd_X8_9_7 (by first | rfl | exact gC0 (by assumption) | exact gL0 (by assumption)) rfl ?_
  refine Rn.aload_n dX8_put_28 rfl rfl ?_
  refine Rn.getI dX8_put_29 fd_X8_15_7 (by first | rfl | exact gC0 (by assumption) | exact gL0 (by assumption)) rfl ?_
  refine Rn.topI (nI l) (by exact h.1) ?_
  refine Rn.iload_n dX8_put_32 rfl rfl ?_
  refine Rn.iload_n dX8_put_33 rfl rfl ?_
  refine Rn.iushr dX8_put_34 ?_
  refine Rn.sipush (v := (nI 255)) dX8_put_35 rfl ?_
  refine Rn.iand dX8_put_38 ?_
  refine Rn.topI (nI (bt v 8)) (by exact btA_8 v) ?_
  refine Rn.iastN dX8_put_39 (by first | rfl | exact gC1 (by assumption) | exact gC2 (by assumption) | exact gC3 (by assumption) | exact gL1 (by assumption) | exact gL2 (by assumption) | exact gL3 (by assumption) | exact gL4 (by assumption) | exact gL5 (by assumption) | exact gL6 (by assumption)) ?_
  refine Rn.aload_n dX8_put_40 rfl rfl ?_
  refine Rn.dup dX8_put_41 rfl ?_
  refine Rn.getI dX8_put_42 fd_X8_15_7 (by first | rfl | exact gC0 (by assumption) | exact gL0 (by assumption)) rfl ?_
  refine Rn.topI (nI l) (by rw [zup_ne _ _ (by decide)]; exact h.1) ?_
  refine Rn.iconst (v := (nI 1)) dX8_put_45 rfl ?_
  refine Rn.iadd dX8_put_46 ?_
  refine Rn.topI (nI (l + 1)) (by exact nI_1 l) ?_
  refine Rn.putI dX8_put_47 fp_X8_15_7 (by first | rfl | exact gC0 (by assumption) | exact gL0 (by assumption)) rfl ?_
  refine Rn.iinc (v := (nI 0)) dX8_put_50 rfl (by decide) (by decide) ?_
  refine Rn.goto 3 dX8_put_53 (by decide) ?_
  exact kk _ (h.nx hl h0 (by rw [hf]))
theorem pt_0 {kx : Kx} {b : Nat} {I0 : Hi} {l0 : Nat} {f : Nat → Nat} (v : Int32) (l : Nat) (hl : l < 400) (h0 : l0 ≤ l) (h : TP I0 l0 f l I) (hf : f (l - l0) = bt v 0) (kk : ∀ J, TP I0 l0 f (l + 1) J → Rn G GAM mX8_put kx d b 3 [some (.ref 1), some (.int v), some (.int (-8))] [] J) : Rn G GAM mX8_put kx d b 3 [some (.ref 1), some (.int v), some (.int (nI 0))] [] I := by
  refine Rn.iload_n dX8_put_3 rfl rfl ?_
  refine Rn.if_lt (tgt := 56) dX8_put_4 (by decide) (fun h9 => absurd h9 (by decide)) (fun _ => ?_)
  refine Rn.aload_n dX8_put_7 rfl rfl ?_
  refine Rn.getI dX8_put_8 fd_X8_15_7 (by first | rfl | exact gC0 (by assumption) | exact gL0 (by assumption)) rfl ?_
  refine Rn.topI (nI l) (by exact h.1) ?_
  refine Rn.if_ltN dX8_put_11 ?_ 50
  refine Rn.aload_n dX8_put_14 rfl rfl ?_
  refine Rn.getI dX8_put_15 fd_X8_15_7 (by first | rfl | exact gC0 (by assumption) | exact gL0 (by assumption)) rfl ?_
  refine Rn.topI (nI l) (by exact h.1) ?_
  refine Rn.sipush (v := (nI 400)) dX8_put_18 rfl ?_
  refine Rn.icmp_geN dX8_put_21 50 (fun h9 => by exfalso; omega) (fun _ => ?_)
  refine Rn.aload_n dX8_put_24 rfl rfl ?_
  refine Rn.getR dX8_put_25 fd_X8_9_7 (by first | rfl | exact gC0 (by assumption) | exact gL0 (by assumption)) rfl ?_
  refine Rn.aload_n dX8_put_28 rfl rfl ?_
  refine Rn.getI dX8_put_29 fd_X8_15_7 (by first | rfl | exact gC0 (by assumption) | exact gL0 (by assumption)) rfl ?_
  refine Rn.topI (nI l) (by exact h.1) ?_
  refine Rn.iload_n dX8_put_32 rfl rfl ?_
  refine Rn.iload_n dX8_put_33 rfl rfl ?_
  refine Rn.iushr dX8_put_34 ?_
  refine Rn.sipush (v := (nI 255)) dX8_put_35 rfl ?_
  refine Rn.iand dX8_put_38 ?_
  refine Rn.topI (nI (bt v 0)) (by exact btA_0 v) ?_
  refine Rn.iastN dX8_put_39 (by first | rfl | exact gC1 (by assumption) | exact gC2 (by assumption) | exact gC3 (by assumption) | exact gL1 (by assumption) | exact gL2 (by assumption) | exact gL3 (by assumption) | exact gL4 (by assumption) | exact gL5 (by assumption) | exact gL6 (by assumption)) ?_
  refine Rn.aload_n dX8_put_40 rfl rfl ?_
  refine Rn.dup dX8_put_41 rfl ?_
  refine Rn.getI dX8_put_42 fd_X8_15_7 (by first | rfl | exact gC0 (by assumption) | exact gL0 (by assumption)) rfl ?_
  refine Rn.topI (nI l) (by rw [zup_ne _ _ (by decide)]; exact h.1) ?_
  refine Rn.iconst (v := (nI 1)) dX8_put_45 rfl ?_
  refine Rn.iadd dX8_put_46 ?_
  refine Rn.topI (nI (l + 1)) (by exact nI_1 l) ?_
  refine Rn.putI dX8_put_47 fp_X8_15_7 (by first | rfl | exact gC0 (by assumption) | exact gL0 (by assumption)) rfl ?_
  refine Rn.iinc (v := (-8)) dX8_put_50 rfl (by decide) (by decide) ?_
  refine Rn.goto 3 dX8_put_53 (by decide) ?_
  exact kk _ (h.nx hl h0 (by rw [hf]))
theorem tp_put {I0 : Hi} {l0 : Nat} {f : Nat → Nat} (l : Nat) (hl : l + 4 ≤ 400) (h0 : l0 ≤ l) (h : TP I0 l0 f l I) (v : Int32) (hf : ∀ r, r < 4 → f (l + r - l0) = bt v (24 - 8 * r)) : Ct G GAM mX8_put d 0 [.ref 1, .int v] I (fun o K => o = .inl none ∧ TP I0 l0 f (l + 4) K) := by
  refine Ct.mk [some (.ref 1), some (.int v), none] ?_
  refine Rn.bipush (v := (nI 24)) dX8_put_0 rfl ?_
  refine Rn.istore_n dX8_put_2 rfl (by decide) ?_
  refine Rn.lcl [some (.ref 1), some (.int v), some (.int (nI 24))] rfl ?_
  refine pt_24 G d I v l (by omega) h0 h (hf 0 (by decide)) (fun J1 h1 => ?_)
  refine pt_16 G d J1 v (l + 1) (by omega) (by omega) h1 (hf 1 (by decide)) (fun J2 h2 => ?_)
  refine pt_8 G d J2 v (l + 1 + 1) (by omega) (by omega) h2 (hf 2 (by decide)) (fun J3 h3 => ?_)
  refine pt_0 G d J3 v (l + 1 + 1 + 1) (by omega) (by omega) h3 (hf 3 (by decide)) (fun J4 h4 => ?_)
  refine Rn.iload_n dX8_put_3 rfl rfl ?_
  refine Rn.if_lt (tgt := 56) dX8_put_4 (by decide) (fun _ => ?_) (fun h9 => absurd h9 (by decide))
  exact Rn.vret dX8_put_56 rfl (⟨rfl, h4⟩)
theorem xd_feed (p0 p1 p2 p3 p4 : Int32) (hB : BX I) (hX : XM I) : Ct G GAM mX9_feed (d + 1) 0 [.ref 0, .int p0, .int p1, .int p2, .int p3, .int p4] I (Rv (fun v J => ∃ x, v = some (.int x) ∧ FX I (fb p0 p1 p2 p3 p4) x J)) := by
  obtain ⟨l, hl, e⟩ := nI_iv (n := 400) (hB 1 1)
  have T0 : TP I l (fb p0 p1 p2 p3 p4) l I := ⟨e, hB, hX, fun _ _ _ => rfl, fun _ _ => rfl, fun i a b => absurd b (by omega)⟩
  have hf : ∀ j r, r < 4 → fb p0 p1 p2 p3 p4 (l + 4 * j + r - l) = bt (pv p0 p1 p2 p3 p4 j) (24 - 8 * r) := fun j r hr => by
    rw [show l + 4 * j + r - l = 4 * j + r by omega]
    exact fb_at hr
  refine Ct.mk [some (.ref 0), some (.int p0), some (.int p1), some (.int p2), some (.int p3), some (.int p4)] ?_
  refine Rn.aload_n dX9_feed_0 rfl rfl ?_
  refine Rn.getR dX9_feed_1 fd_X9_10_8 (by first | rfl | exact gC0 (by assumption) | exact gL0 (by assumption)) rfl ?_
  refine Rn.getI dX9_feed_4 fd_X9_84_7 (by first | rfl | exact gC0 (by assumption) | exact gL0 (by assumption)) rfl ?_
  refine Rn.topI (nI l) (by exact e) ?_
  refine Rn.bipush (v := (nI 20)) dX9_feed_7 rfl ?_
  refine Rn.iadd dX9_feed_9 ?_
  refine Rn.topI (nI (l + 20)) (by exact nI_add l 20) ?_
  refine Rn.sipush (v := (nI 400)) dX9_feed_10 rfl ?_
  refine Rn.icmp_leN dX9_feed_13 18 (fun h1 => ?_) (fun h1 => ?_)
  · refine Rn.aload_n dX9_feed_18 rfl rfl ?_
    refine Rn.getR dX9_feed_19 fd_X9_10_8 (by first | rfl | exact gC0 (by assumption) | exact gL0 (by assumption)) rfl ?_
    refine Rn.iload_n dX9_feed_22 rfl rfl ?_
    refine Rn.callV (As := [_]) dX9_feed_23 mv_X9_87 (by first | rfl | exact gC0 (by assumption) | exact gL0 (by assumption)) rfl rfl rfl (Nat.le_of_ble_eq_true rfl) (tp_put G _ _ l (by omega) (by omega) T0 _ (hf 0)) (fun E J h => nomatch h.1) (fun v J1 q1 => ?_)
    obtain ⟨e1, a1⟩ := q1
    cases e1
    refine Rn.aload_n dX9_feed_26 rfl rfl ?_
    refine Rn.getR dX9_feed_27 fd_X9_10_8 (by first | rfl | exact gC0 (by assumption) | exact gL0 (by assumption)) rfl ?_
    refine Rn.iload_n dX9_feed_30 rfl rfl ?_
    refine Rn.callV (As := [_]) dX9_feed_31 mv_X9_87 (by first | rfl | exact gC0 (by assumption) | exact gL0 (by assumption)) rfl rfl rfl (Nat.le_of_ble_eq_true rfl) (tp_put G _ _ _ (by omega) (by omega) a1 _ (hf 1)) (fun E J h => nomatch h.1) (fun v J2 q2 => ?_)
    obtain ⟨e1, a2⟩ := q2
    cases e1
    refine Rn.aload_n dX9_feed_34 rfl rfl ?_
    refine Rn.getR dX9_feed_35 fd_X9_10_8 (by first | rfl | exact gC0 (by assumption) | exact gL0 (by assumption)) rfl ?_
    refine Rn.iload_n dX9_feed_38 rfl rfl ?_
    refine Rn.callV (As := [_]) dX9_feed_39 mv_X9_87 (by first | rfl | exact gC0 (by assumption) | exact gL0 (by assumption)) rfl rfl rfl (Nat.le_of_ble_eq_true rfl) (tp_put G _ _ _ (by omega) (by omega) a2 _ (hf 2)) (fun E J h => nomatch h.1) (fun v J3 q3 => ?_)
    obtain ⟨e1, a3⟩ := q3
    cases e1
    refine Rn.aload_n dX9_feed_42 rfl rfl ?_
    refine Rn.getR dX9_feed_43 fd_X9_10_8 (by first | rfl | exact gC0 (by assumption) | exact gL0 (by assumption)) rfl ?_
    refine Rn.iload dX9_feed_46 rfl ?_
    refine Rn.callV (As := [_]) dX9_feed_48 mv_X9_87 (by first | rfl | exact gC0 (by assumption) | exact gL0 (by assumption)) rfl rfl rfl (Nat.le_of_ble_eq_true rfl) (tp_put G _ _ _ (by omega) (by omega) a3 _ (hf 3)) (fun E J h => nomatch h.1) (fun v J4 q4 => ?_)
    obtain ⟨e1, a4⟩ := q4
    cases e1
    refine Rn.aload_n dX9_feed_51 rfl rfl ?_
    refine Rn.getR dX9_feed_52 fd_X9_10_8 (by first | rfl | exact gC0 (by assumption) | exact gL0 (by assumption)) rfl ?_
    refine Rn.iload dX9_feed_55 rfl ?_
    refine Rn.callV (As := [_]) dX9_feed_57 mv_X9_87 (by first | rfl | exact gC0 (by assumption) | exact gL0 (by assumption)) rfl rfl rfl (Nat.le_of_ble_eq_true rfl) (tp_put G _ _ _ (by omega) (by omega) a4 _ (hf 4)) (fun E J h => nomatch h.1) (fun v J5 q5 => ?_)
    obtain ⟨e1, a5⟩ := q5
    cases e1
    refine Rn.aload_n dX9_feed_60 rfl rfl ?_
    refine Rn.getR dX9_feed_61 fd_X9_10_8 (by first | rfl | exact gC0 (by assumption) | exact gL0 (by assumption)) rfl ?_
    refine Rn.getI dX9_feed_64 fd_X9_84_7 (by first | rfl | exact gC0 (by assumption) | exact gL0 (by assumption)) rfl ?_
    exact Rn.iret dX9_feed_67 rfl (⟨_, rfl, a5.2.1, a5.2.2.1, a5.2.2.2.1, l, hl, e, Or.inr ⟨h1, a5.1, a5.1, a5.2.2.2.2.1, a5.2.2.2.2.2⟩⟩)
  · refine Rn.iconst (v := (-1)) dX9_feed_16 rfl ?_
    exact Rn.iret dX9_feed_17 rfl (⟨-1, rfl, hB, hX, fun _ _ _ => rfl, l, hl, e, Or.inl ⟨h1, rfl, rfl, rfl⟩⟩)
theorem div4 : ∀ i, i < 20 → nI i / nI 4 = nI (i / 4) := by decide
theorem sh4 : ∀ i, i < 20 → nI 24 - nI 8 * (nI i - nI i / nI 4 * nI 4) = nI (24 - 8 * (i % 4)) := by decide
/-- while the reference writes bytes -/
def TN (I0 : Hi) (q : Nat → Int32) (f : Nat → Nat) (l n : Nat) (J : Hi) : Prop := J 94 9 = nI l ∧ BX J ∧ XM J ∧ (∀ a, a ≠ 94 → a ≠ 100 → a ≠ 101 → J a = I0 a) ∧ (∀ j, j < 5 → J 101 j = q j) ∧ (∀ i, i < l → J 100 i = I0 100 i) ∧ (∀ i, l ≤ i → i < l + n → J 100 i = sb (f (i - l))) ∧ ∀ j, j ≠ 0 → J 94 j = I0 94 j
theorem TN.nx {I0 J : Hi} {q : Nat → Int32} {f : Nat → Nat} {l n : Nat} {x : Int32} (h : TN I0 q f l n J) (hx : x = sb (f n)) : TN I0 q f l (n + 1) (zup J 100 (l + n) x) := by
  obtain ⟨h1, h2, h3, h4, h5, h6, h7, h8⟩ := h
  refine ⟨by rw [zup_ne _ _ (by decide)]; exact h1, BX.up (a := 100) (j := l + n) h2 (inIv_F _), XM.up h3 (by decide), fun a a1 a2 a3 => by rw [zup_ne _ _ a2]; exact h4 a a1 a2 a3, fun j hj => by rw [zup_ne _ _ (by decide)]; exact h5 j hj, fun i hi => by rw [zup_at, upd_ne _ _ (by omega)]; exact h6 i hi, fun i hi hi2 => ?_, fun j hj => by rw [zup_ne _ _ (by decide)]; exact h8 j hj⟩
  rw [zup_at]
  by_cases e : i = l + n
  · subst e; rw [upd_at, hx]; congr 2; omega
  · rw [upd_ne _ _ e]; exact h7 i hi (by omega)
theorem fd_lp {kx : Kx} {b : Nat} {I0 : Hi} (p0 p1 p2 p3 p4 : Int32) (l : Nat) (hl : l + 20 ≤ 400) (kk : ∀ J, TN I0 (pv p0 p1 p2 p3 p4) (fb p0 p1 p2 p3 p4) l 20 J → Rn G GAM mX10_feed kx d b 60 [some (.ref 94), some (.int p0), some (.int p1), some (.int p2), some (.int p3), some (.int p4), some (.int (nI 20))] [] J) : ∀ (m i : Nat), i + m = 20 → ∀ J, TN I0 (pv p0 p1 p2 p3 p4) (fb p0 p1 p2 p3 p4) l i J → Rn G GAM mX10_feed kx d b 60 [some (.ref 94), some (.int p0), some (.int p1), some (.int p2), some (.int p3), some (.int p4), some (.int (nI i))] [] J := by
  intro m
  induction m with
  | zero =>
    intro i hi J h
    obtain rfl : i = 20 := by omega
    exact kk J h
  | succ m ih =>
    intro i hi J h
    refine Rn.iload dX10_feed_60 rfl ?_
    refine Rn.bipush (v := (nI 20)) dX10_feed_62 rfl ?_
    refine Rn.icmp_geN dX10_feed_64 106 (fun h9 => by exfalso; omega) (fun _ => ?_)
    refine Rn.aload_n dX10_feed_67 rfl rfl ?_
    refine Rn.getR dX10_feed_68 fd_X10_29_9 (by first | rfl | exact gC0 (by assumption) | exact gL0 (by assumption)) rfl ?_
    refine Rn.aload_n dX10_feed_71 rfl rfl ?_
    refine Rn.getI dX10_feed_72 fd_X10_86_9 (by first | rfl | exact gC0 (by assumption) | exact gL0 (by assumption)) rfl ?_
    refine Rn.topI (nI l) (by exact h.1) ?_
    refine Rn.iload dX10_feed_75 rfl ?_
    refine Rn.iadd dX10_feed_77 ?_
    refine Rn.topI (nI (l + i)) (by exact nI_add l i) ?_
    refine Rn.aload_n dX10_feed_78 rfl rfl ?_
    refine Rn.getR dX10_feed_79 fd_X10_36_9 (by first | rfl | exact gC0 (by assumption) | exact gL0 (by assumption)) rfl ?_
    refine Rn.iload dX10_feed_82 rfl ?_
    refine Rn.iconst (v := (nI 4)) dX10_feed_84 rfl ?_
    refine Rn.idiv dX10_feed_85 (by decide) ?_
    refine Rn.topI (nI (i / 4)) (by exact div4 i (by omega)) ?_
    refine Rn.ialdN dX10_feed_86 (by first | rfl | exact gC1 (by assumption) | exact gC2 (by assumption) | exact gC3 (by assumption) | exact gL1 (by assumption) | exact gL2 (by assumption) | exact gL3 (by assumption) | exact gL4 (by assumption) | exact gL5 (by assumption) | exact gL6 (by assumption)) ?_
    refine Rn.topI (pv p0 p1 p2 p3 p4 (i / 4)) (by exact h.2.2.2.2.1 (i / 4) (by omega)) ?_
    refine Rn.bipush (v := (nI 24)) dX10_feed_87 rfl ?_
    refine Rn.bipush (v := (nI 8)) dX10_feed_89 rfl ?_
    refine Rn.iload dX10_feed_91 rfl ?_
    refine Rn.iconst (v := (nI 4)) dX10_feed_93 rfl ?_
    refine Rn.irem dX10_feed_94 (by decide) ?_
    refine Rn.imul dX10_feed_95 ?_
    refine Rn.isub dX10_feed_96 ?_
    refine Rn.topI (nI (24 - 8 * (i % 4))) (by exact sh4 i (by omega)) ?_
    refine Rn.ishr dX10_feed_97 ?_
    refine Rn.i2b dX10_feed_98 ?_
    refine Rn.bastN dX10_feed_99 (by first | rfl | exact gC1 (by assumption) | exact gC2 (by assumption) | exact gC3 (by assumption) | exact gL1 (by assumption) | exact gL2 (by assumption) | exact gL3 (by assumption) | exact gL4 (by assumption) | exact gL5 (by assumption) | exact gL6 (by assumption)) ?_
    refine Rn.iincN dX10_feed_100 rfl (by decide) ?_
    refine Rn.goto 60 dX10_feed_103 (by decide) ?_
    exact ih (i + 1) (by omega) _ (h.nx (btB _ (i % 4) (by omega)))
theorem mo_feed (p0 p1 p2 p3 p4 : Int32) (hB : BX I) (hX : XM I) : Ct G GAM mX10_feed d 0 [.ref 94, .int p0, .int p1, .int p2, .int p3, .int p4] I (Rv (fun v J => ∃ x, v = some (.int x) ∧ FM I (fb p0 p1 p2 p3 p4) x J)) := by
  obtain ⟨l, hl, e⟩ := nI_iv (n := 400) (hB 94 9)
  have h9 : ∀ v, zup I 94 0 v 94 9 = nI l := fun v => by rw [zup_at, upd_ne _ _ (by decide)]; exact e
  refine Ct.mk [some (.ref 94), some (.int p0), some (.int p1), some (.int p2), some (.int p3), some (.int p4), none] ?_
  refine Rn.aload_n dX10_feed_0 rfl rfl ?_
  refine Rn.iconst (v := (nI 0)) dX10_feed_1 rfl ?_
  refine Rn.putI dX10_feed_2 fp_X10_3_9 (by first | rfl | exact gC0 (by assumption) | exact gL0 (by assumption)) rfl ?_
  refine Rn.aload_n dX10_feed_5 rfl rfl ?_
  refine Rn.getI dX10_feed_6 fd_X10_86_9 (by first | rfl | exact gC0 (by assumption) | exact gL0 (by assumption)) rfl ?_
  refine Rn.topI (nI l) (by exact h9 _) ?_
  refine Rn.bipush (v := (nI 20)) dX10_feed_9 rfl ?_
  refine Rn.iadd dX10_feed_11 ?_
  refine Rn.topI (nI (l + 20)) (by exact nI_add l 20) ?_
  refine Rn.sipush (v := (nI 400)) dX10_feed_12 rfl ?_
  refine Rn.icmp_leN dX10_feed_15 20 (fun h1 => ?_) (fun h1 => ?_)
  · refine Rn.aload_n dX10_feed_20 rfl rfl ?_
    refine Rn.getR dX10_feed_21 fd_X10_36_9 (by first | rfl | exact gC0 (by assumption) | exact gL0 (by assumption)) rfl ?_
    refine Rn.iconst (v := (nI 0)) dX10_feed_24 rfl ?_
    refine Rn.iload_n dX10_feed_25 rfl rfl ?_
    refine Rn.iastN dX10_feed_26 (by first | rfl | exact gC1 (by assumption) | exact gC2 (by assumption) | exact gC3 (by assumption) | exact gL1 (by assumption) | exact gL2 (by assumption) | exact gL3 (by assumption) | exact gL4 (by assumption) | exact gL5 (by assumption) | exact gL6 (by assumption)) ?_
    refine Rn.aload_n dX10_feed_27 rfl rfl ?_
    refine Rn.getR dX10_feed_28 fd_X10_36_9 (by first | rfl | exact gC0 (by assumption) | exact gL0 (by assumption)) rfl ?_
    refine Rn.iconst (v := (nI 1)) dX10_feed_31 rfl ?_
    refine Rn.iload_n dX10_feed_32 rfl rfl ?_
    refine Rn.iastN dX10_feed_33 (by first | rfl | exact gC1 (by assumption) | exact gC2 (by assumption) | exact gC3 (by assumption) | exact gL1 (by assumption) | exact gL2 (by assumption) | exact gL3 (by assumption) | exact gL4 (by assumption) | exact gL5 (by assumption) | exact gL6 (by assumption)) ?_
    refine Rn.aload_n dX10_feed_34 rfl rfl ?_
    refine Rn.getR dX10_feed_35 fd_X10_36_9 (by first | rfl | exact gC0 (by assumption) | exact gL0 (by assumption)) rfl ?_
    refine Rn.iconst (v := (nI 2)) dX10_feed_38 rfl ?_
    refine Rn.iload_n dX10_feed_39 rfl rfl ?_
    refine Rn.iastN dX10_feed_40 (by first | rfl | exact gC1 (by assumption) | exact gC2 (by assumption) | exact gC3 (by assumption) | exact gL1 (by assumption) | exact gL2 (by assumption) | exact gL3 (by assumption) | exact gL4 (by assumption) | exact gL5 (by assumption) | exact gL6 (by assumption)) ?_
    refine Rn.aload_n dX10_feed_41 rfl rfl ?_
    refine Rn.getR dX10_feed_42 fd_X10_36_9 (by first | rfl | exact gC0 (by assumption) | exact gL0 (by assumption)) rfl ?_
    refine Rn.iconst (v := (nI 3)) dX10_feed_45 rfl ?_
    refine Rn.iload dX10_feed_46 rfl ?_
    refine Rn.iastN dX10_feed_48 (by first | rfl | exact gC1 (by assumption) | exact gC2 (by assumption) | exact gC3 (by assumption) | exact gL1 (by assumption) | exact gL2 (by assumption) | exact gL3 (by assumption) | exact gL4 (by assumption) | exact gL5 (by assumption) | exact gL6 (by assumption)) ?_
    refine Rn.aload_n dX10_feed_49 rfl rfl ?_
    refine Rn.getR dX10_feed_50 fd_X10_36_9 (by first | rfl | exact gC0 (by assumption) | exact gL0 (by assumption)) rfl ?_
    refine Rn.iconst (v := (nI 4)) dX10_feed_53 rfl ?_
    refine Rn.iload dX10_feed_54 rfl ?_
    refine Rn.iastN dX10_feed_56 (by first | rfl | exact gC1 (by assumption) | exact gC2 (by assumption) | exact gC3 (by assumption) | exact gL1 (by assumption) | exact gL2 (by assumption) | exact gL3 (by assumption) | exact gL4 (by assumption) | exact gL5 (by assumption) | exact gL6 (by assumption)) ?_
    refine Rn.iconst (v := (nI 0)) dX10_feed_57 rfl ?_
    refine Rn.istore dX10_feed_58 (by decide) ?_
    refine Rn.lcl [some (.ref 94), some (.int p0), some (.int p1), some (.int p2), some (.int p3), some (.int p4), some (.int (nI 0))] rfl ?_
    have T1 : TN I (pv p0 p1 p2 p3 p4) (fb p0 p1 p2 p3 p4) l 0 (zup (zup (zup (zup (zup (zup I 94 0 (nI 0)) 101 0 p0) 101 1 p1) 101 2 p2) 101 3 p3) 101 4 p4) := by
      refine ⟨by rw [zup_ne _ _ (by decide), zup_ne _ _ (by decide), zup_ne _ _ (by decide), zup_ne _ _ (by decide), zup_ne _ _ (by decide)]; exact h9 _, BX.triv (BX.triv (BX.triv (BX.triv (BX.triv (BX.thr hB _) (by decide) _) (by decide) _) (by decide) _) (by decide) _) (by decide) _, XM.up (XM.up (XM.up (XM.up (XM.up (XM.up hX (by decide)) (by decide)) (by decide)) (by decide)) (by decide)) (by decide), fun a a1 a2 a3 => by rw [zup_ne _ _ a3, zup_ne _ _ a3, zup_ne _ _ a3, zup_ne _ _ a3, zup_ne _ _ a3, zup_ne _ _ a1], fun j hj => ?_, fun i hi => by rw [zup_ne _ _ (by decide), zup_ne _ _ (by decide), zup_ne _ _ (by decide), zup_ne _ _ (by decide), zup_ne _ _ (by decide), zup_ne _ _ (by decide)], fun i a b => absurd b (by omega), fun j hj => by rw [zup_ne _ _ (by decide), zup_ne _ _ (by decide), zup_ne _ _ (by decide), zup_ne _ _ (by decide), zup_ne _ _ (by decide), zup_at, upd_ne _ _ hj]⟩
      match j, hj with
      | 0, _ => rfl
      | 1, _ => rfl
      | 2, _ => rfl
      | 3, _ => rfl
      | 4, _ => rfl
    refine fd_lp G d p0 p1 p2 p3 p4 l h1 (fun J hJ => ?_) 20 0 rfl _ T1
    refine Rn.iload dX10_feed_60 rfl ?_
    refine Rn.bipush (v := (nI 20)) dX10_feed_62 rfl ?_
    refine Rn.icmp_ge (tgt := 106) dX10_feed_64 (by decide) (fun _ => ?_) (fun h9 => absurd h9 (by decide))
    refine Rn.aload_n dX10_feed_106 rfl rfl ?_
    refine Rn.dup dX10_feed_107 rfl ?_
    refine Rn.getI dX10_feed_108 fd_X10_86_9 (by first | rfl | exact gC0 (by assumption) | exact gL0 (by assumption)) rfl ?_
    refine Rn.topI (nI l) (by exact hJ.1) ?_
    refine Rn.bipush (v := (nI 20)) dX10_feed_111 rfl ?_
    refine Rn.iadd dX10_feed_113 ?_
    refine Rn.topI (nI (l + 20)) (by exact nI_add l 20) ?_
    refine Rn.putI dX10_feed_114 fp_X10_86_9 (by first | rfl | exact gC0 (by assumption) | exact gL0 (by assumption)) rfl ?_
    refine Rn.aload_n dX10_feed_117 rfl rfl ?_
    refine Rn.getI dX10_feed_118 fd_X10_86_9 (by first | rfl | exact gC0 (by assumption) | exact gL0 (by assumption)) rfl ?_
    exact Rn.iret dX10_feed_121 rfl (⟨_, rfl, BX.up (a := 94) (j := 9) hJ.2.1 (iv_nI (n := 400) h1 (by decide)), XM.up hJ.2.2.1 (by decide), fun a a1 a2 a3 => by rw [zup_ne _ _ a1]; exact hJ.2.2.2.1 a a1 a2 a3, ⟨l, hl, e, Or.inr ⟨h1, by rw [zup_at, upd_at], by rw [zup_at, upd_at], fun i hi => by rw [zup_ne _ _ (by decide)]; exact hJ.2.2.2.2.2.1 i hi, fun i hi hi2 => by rw [zup_ne _ _ (by decide)]; exact hJ.2.2.2.2.2.2.1 i hi hi2⟩⟩, fun j a1 a2 => by rw [zup_at, upd_ne _ _ a2]; exact hJ.2.2.2.2.2.2.2 j a1⟩)
  · refine Rn.iconst (v := (-1)) dX10_feed_18 rfl ?_
    exact Rn.iret dX10_feed_19 rfl (⟨-1, rfl, BX.thr hB _, XM.up hX (by decide), fun a a1 _ _ => by rw [zup_ne _ _ a1], ⟨l, hl, e, Or.inl ⟨h1, rfl, by rw [h9]; exact e.symm, by rw [zup_ne _ _ (by decide)]⟩⟩, fun j a1 _ => by rw [zup_at, upd_ne _ _ a1]⟩)
end Tap
theorem feed_both {I J1 J2 : Hi} {p0 p1 p2 p3 p4 r1 r2 : Int32} (hI : LI I) (h1 : FX I (fb p0 p1 p2 p3 p4) r1 J1) (h2 : FM J1 (fb p0 p1 p2 p3 p4) r2 J2) : r1 = r2 ∧ LI J2 := by
  obtain ⟨c, e, he, t1, t9, hb⟩ := hI.2.2.2.2.1
  obtain ⟨-, -, f1, l, hl, l1, g1⟩ := h1
  obtain ⟨b2, x2, f2, ⟨k, hk, k1, g2⟩, f3⟩ := h2
  obtain rfl : e = l := (nI_eq (by omega) (by omega)).mp (t1.symm.trans l1)
  have j94 : J1 94 = I 94 := f1 94 (by decide) (by decide)
  have k2 : J1 94 9 = nI e := by rw [j94]; exact t9
  obtain rfl : e = k := (nI_eq (by omega) (by omega)).mp (k2.symm.trans k1)
  have fin : TE J2 → LI J2 := fun hT => hI.keep b2 x2 hT (fun a a1 a2 a3 a4 a5 => (f2 a a3 a4 a5).trans (f1 a a1 a2)) (fun j a1 a2 => by rw [f3 j a1 a2, j94])
  rcases g1 with ⟨q1, rfl, q3, q4⟩ | ⟨q1, rfl, q3, q4, q5⟩
  · rcases g2 with ⟨w1, rfl, w3, w4⟩ | ⟨w1, -, -⟩
    · exact ⟨rfl, fin ⟨c, e, he, by rw [f2 1 (by decide) (by decide) (by decide), q3]; exact t1, by rw [w3]; exact k2, fun i hi => ⟨(hb i hi).1, by rw [f2 2 (by decide) (by decide) (by decide), q4]; exact (hb i hi).2.1, by rw [w4, f1 100 (by decide) (by decide)]; exact (hb i hi).2.2⟩⟩⟩
    · omega
  · rcases g2 with ⟨w1, -, -⟩ | ⟨w1, rfl, w3, w4, w5⟩
    · omega
    · refine ⟨rfl, fin ⟨fun i => if i < e then c i else fb p0 p1 p2 p3 p4 (i - e), e + 20, w1, by rw [f2 1 (by decide) (by decide) (by decide)]; exact q3, w3, fun i hi => ?_⟩⟩
      by_cases z : i < e
      · simp only [if_pos z]
        exact ⟨(hb i z).1, by rw [f2 2 (by decide) (by decide) (by decide), q4 i z]; exact (hb i z).2.1, by rw [w4 i z, f1 100 (by decide) (by decide)]; exact (hb i z).2.2⟩
      · simp only [if_neg z]
        exact ⟨bt_lt _ _, by rw [f2 2 (by decide) (by decide) (by decide)]; exact q5 i (by omega) hi, w5 i (by omega) hi⟩
theorem end_both {I J1 J2 : Hi} {n r1 r2 : Int32} (hI : LI I) (h1 : BX J1 ∧ XM J1 ∧ (∀ a, a ≠ 1 → J1 a = I a) ∧ endP n (I 1 1) (J1 1 1) r1) (h2 : BX J2 ∧ XM J2 ∧ (∀ a, a ≠ 94 → J2 a = J1 a) ∧ endP n (J1 94 9) (J2 94 9) r2 ∧ ∀ j, j ≠ 0 → j ≠ 9 → J2 94 j = J1 94 j) : r1 = r2 ∧ LI J2 := by
  obtain ⟨c, e, he, t1, t9, hb⟩ := hI.2.2.2.2.1
  obtain ⟨-, -, f1, g1⟩ := h1
  obtain ⟨b2, x2, f2, g2, f3⟩ := h2
  have j94 : J1 94 = I 94 := f1 94 (by decide)
  rw [j94, t9] at g2
  rw [t1] at g1
  obtain ⟨a, b⟩ := g1.eq g2
  have key : ∃ k, k ≤ e ∧ J1 1 1 = nI k := by
    rcases g1 with ⟨y1, y2, -, y3⟩ | ⟨-, -, y3⟩
    · have z1 := Int32.le_iff_toInt_le.mp (Int32.not_lt.mp y1)
      have z2 := Int32.le_iff_toInt_le.mp y2
      rw [Int32.toInt_zero] at z1
      rw [nI_toInt (by omega)] at z2
      obtain ⟨k, hk, ek⟩ := nI_iv (n := e) (x := n) ⟨z1, z2⟩
      exact ⟨k, hk, y3.trans ek⟩
    · exact ⟨e, Nat.le_refl _, y3⟩
  obtain ⟨k, hk, ek⟩ := key
  exact ⟨a, hI.keep b2 x2 ⟨c, k, by omega, by rw [f2 1 (by decide)]; exact ek, by rw [← b]; exact ek, fun i hi => ⟨(hb i (by omega)).1, by rw [f2 2 (by decide), f1 2 (by decide)]; exact (hb i (by omega)).2.1, by rw [f2 100 (by decide), f1 100 (by decide)]; exact (hb i (by omega)).2.2⟩⟩ (fun a a1 _ a3 _ _ => (f2 a a3).trans (f1 a a1)) (fun j a1 a2 => by rw [f3 j a1 a2, j94])⟩
