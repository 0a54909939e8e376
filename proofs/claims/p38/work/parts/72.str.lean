abbrev mJ0_coder_7d493 : Ym := (yJ0_coder_7d493, cJ0_coder_7d493, 1, some .byte)
theorem dJ0_coder_7d493_0 : decode cJ0_coder_7d493 0 = .ok (.getstatic 38, 3) := by decide +kernel
theorem dJ0_coder_7d493_3 : decode cJ0_coder_7d493 3 = .ok (.ifCond .eq 10, 3) := by decide +kernel
theorem dJ0_coder_7d493_6 : decode cJ0_coder_7d493 6 = .ok (.aload_n 0, 1) := by decide +kernel
theorem dJ0_coder_7d493_7 : decode cJ0_coder_7d493 7 = .ok (.getfield 15, 3) := by decide +kernel
theorem dJ0_coder_7d493_10 : decode cJ0_coder_7d493 10 = .ok (.goto 4, 3) := by decide +kernel
theorem dJ0_coder_7d493_14 : decode cJ0_coder_7d493 14 = .ok (.ireturn, 1) := by decide +kernel
theorem wi_1398 : Cond.fieldLink "java/lang/String" 38 "java/lang/String" "COMPACT_STRINGS" "Z" ∈ WA := zin 1398 (by decide +kernel) (by decide +kernel)
theorem wi_1948 : Cond.fieldLink "java/lang/String" 15 "java/lang/String" "coder" "B" ∈ WA := zin 1948 (by decide +kernel) (by decide +kernel)
theorem wi_1947 : Cond.fieldLink "java/lang/String" 9 "java/lang/String" "value" "[B" ∈ WA := zin 1947 (by decide +kernel) (by decide +kernel)
abbrev mJ0_isLatin1_aae02 : Ym := (yJ0_isLatin1_aae02, cJ0_isLatin1_aae02, 1, some .boolean)
theorem dJ0_isLatin1_aae02_0 : decode cJ0_isLatin1_aae02 0 = .ok (.getstatic 38, 3) := by decide +kernel
theorem dJ0_isLatin1_aae02_3 : decode cJ0_isLatin1_aae02 3 = .ok (.ifCond .eq 14, 3) := by decide +kernel
theorem dJ0_isLatin1_aae02_6 : decode cJ0_isLatin1_aae02 6 = .ok (.aload_n 0, 1) := by decide +kernel
theorem dJ0_isLatin1_aae02_7 : decode cJ0_isLatin1_aae02 7 = .ok (.getfield 15, 3) := by decide +kernel
theorem dJ0_isLatin1_aae02_10 : decode cJ0_isLatin1_aae02 10 = .ok (.ifCond .ne 7, 3) := by decide +kernel
theorem dJ0_isLatin1_aae02_13 : decode cJ0_isLatin1_aae02 13 = .ok (.iconst 1, 1) := by decide +kernel
theorem dJ0_isLatin1_aae02_14 : decode cJ0_isLatin1_aae02 14 = .ok (.goto 4, 3) := by decide +kernel
theorem dJ0_isLatin1_aae02_18 : decode cJ0_isLatin1_aae02 18 = .ok (.ireturn, 1) := by decide +kernel
abbrev mJ0_length_8abf5 : Ym := (yJ0_length_8abf5, cJ0_length_8abf5, 1, some .int)
theorem dJ0_length_8abf5_0 : decode cJ0_length_8abf5 0 = .ok (.aload_n 0, 1) := by decide +kernel
theorem dJ0_length_8abf5_1 : decode cJ0_length_8abf5 1 = .ok (.getfield 9, 3) := by decide +kernel
theorem dJ0_length_8abf5_4 : decode cJ0_length_8abf5 4 = .ok (.arraylength, 1) := by decide +kernel
theorem dJ0_length_8abf5_5 : decode cJ0_length_8abf5 5 = .ok (.aload_n 0, 1) := by decide +kernel
theorem dJ0_length_8abf5_6 : decode cJ0_length_8abf5 6 = .ok (.invokevirtual 335, 3) := by decide +kernel
theorem dJ0_length_8abf5_9 : decode cJ0_length_8abf5 9 = .ok (.ishr, 1) := by decide +kernel
theorem dJ0_length_8abf5_10 : decode cJ0_length_8abf5 10 = .ok (.ireturn, 1) := by decide +kernel
theorem wi_1394 : Cond.methodLink RJ0 335 yJ0_coder_7d493 ∈ WA := zin 1394 (by decide +kernel) (by decide +kernel)
theorem wi_118 : Cond.initialized RJ0 ∈ WA := zin 118 (by decide +kernel) (by decide +kernel)
theorem wi_1397 : Cond.code yJ0_coder_7d493 cJ0_coder_7d493 1 (some .byte) ∈ WA := zin 1397 (by decide +kernel) (by decide +kernel)
theorem wi_1395 : Cond.instanceMethod yJ0_coder_7d493 ∈ WA := zin 1395 (by decide +kernel) (by decide +kernel)
theorem wi_1396 : Cond.selects RJ0 yJ0_coder_7d493 yJ0_coder_7d493 ∈ WA := zin 1396 (by decide +kernel) (by decide +kernel)
theorem mv_J0_335 : zMv RJ0 335 RJ0 mJ0_coder_7d493 0 := ⟨⟨wi_1394, wi_118, wi_1397, by decide, by decide +kernel⟩, wi_1395, wi_1396⟩
abbrev mJ3_checkIndex_8e157 : Ym := (yJ3_checkIndex_8e157, cJ3_checkIndex_8e157, 3, some .int)
theorem dJ3_checkIndex_8e157_0 : decode cJ3_checkIndex_8e157 0 = .ok (.iload_n 0, 1) := by decide +kernel
theorem dJ3_checkIndex_8e157_1 : decode cJ3_checkIndex_8e157 1 = .ok (.ifCond .lt 8, 3) := by decide +kernel
theorem dJ3_checkIndex_8e157_4 : decode cJ3_checkIndex_8e157 4 = .ok (.iload_n 0, 1) := by decide +kernel
theorem dJ3_checkIndex_8e157_5 : decode cJ3_checkIndex_8e157 5 = .ok (.iload_n 1, 1) := by decide +kernel
theorem dJ3_checkIndex_8e157_6 : decode cJ3_checkIndex_8e157 6 = .ok (.if_icmp .lt 10, 3) := by decide +kernel
theorem dJ3_checkIndex_8e157_16 : decode cJ3_checkIndex_8e157 16 = .ok (.iload_n 0, 1) := by decide +kernel
theorem dJ3_checkIndex_8e157_17 : decode cJ3_checkIndex_8e157 17 = .ok (.ireturn, 1) := by decide +kernel
abbrev mJ0_checkIndex_df160 : Ym := (yJ0_checkIndex_df160, cJ0_checkIndex_df160, 2, none)
theorem dJ0_checkIndex_df160_0 : decode cJ0_checkIndex_df160 0 = .ok (.iload_n 0, 1) := by decide +kernel
theorem dJ0_checkIndex_df160_1 : decode cJ0_checkIndex_df160 1 = .ok (.iload_n 1, 1) := by decide +kernel
theorem dJ0_checkIndex_df160_2 : decode cJ0_checkIndex_df160 2 = .ok (.getstatic 1053, 3) := by decide +kernel
theorem dJ0_checkIndex_df160_5 : decode cJ0_checkIndex_df160 5 = .ok (.invokestatic 1059, 3) := by decide +kernel
theorem dJ0_checkIndex_df160_8 : decode cJ0_checkIndex_df160 8 = .ok (.pop, 1) := by decide +kernel
theorem dJ0_checkIndex_df160_9 : decode cJ0_checkIndex_df160 9 = .ok (.return_, 1) := by decide +kernel
theorem wi_1414 : Cond.fieldLink "java/lang/String" 1053 "jdk/internal/util/Preconditions" "SIOOBE_FORMATTER" "Ljava/util/function/BiFunction;" ∈ WA := zin 1414 (by decide +kernel) (by decide +kernel)
theorem wi_1416 : Cond.methodLink RJ0 1059 yJ3_checkIndex_8e157 ∈ WA := zin 1416 (by decide +kernel) (by decide +kernel)
theorem wi_120 : Cond.initialized RJ3 ∈ WA := zin 120 (by decide +kernel) (by decide +kernel)
theorem wi_1418 : Cond.code yJ3_checkIndex_8e157 cJ3_checkIndex_8e157 3 (some .int) ∈ WA := zin 1418 (by decide +kernel) (by decide +kernel)
theorem wi_1417 : Cond.static yJ3_checkIndex_8e157 ∈ WA := zin 1417 (by decide +kernel) (by decide +kernel)
theorem ms_J0_1059 : zMs RJ0 1059 mJ3_checkIndex_8e157 3 := ⟨⟨wi_1416, wi_120, wi_1418, by decide, by decide +kernel⟩, wi_1417⟩
abbrev mJ1_charAt_3b067 : Ym := (yJ1_charAt_3b067, cJ1_charAt_3b067, 2, some .char)
theorem dJ1_charAt_3b067_0 : decode cJ1_charAt_3b067 0 = .ok (.iload_n 1, 1) := by decide +kernel
theorem dJ1_charAt_3b067_1 : decode cJ1_charAt_3b067 1 = .ok (.aload_n 0, 1) := by decide +kernel
theorem dJ1_charAt_3b067_2 : decode cJ1_charAt_3b067 2 = .ok (.arraylength, 1) := by decide +kernel
theorem dJ1_charAt_3b067_3 : decode cJ1_charAt_3b067 3 = .ok (.invokestatic 9, 3) := by decide +kernel
theorem dJ1_charAt_3b067_6 : decode cJ1_charAt_3b067 6 = .ok (.aload_n 0, 1) := by decide +kernel
theorem dJ1_charAt_3b067_7 : decode cJ1_charAt_3b067 7 = .ok (.iload_n 1, 1) := by decide +kernel
theorem dJ1_charAt_3b067_8 : decode cJ1_charAt_3b067 8 = .ok (.baload, 1) := by decide +kernel
theorem dJ1_charAt_3b067_9 : decode cJ1_charAt_3b067 9 = .ok (.sipush 255, 3) := by decide +kernel
theorem dJ1_charAt_3b067_12 : decode cJ1_charAt_3b067 12 = .ok (.iand, 1) := by decide +kernel
theorem dJ1_charAt_3b067_13 : decode cJ1_charAt_3b067 13 = .ok (.i2c, 1) := by decide +kernel
theorem dJ1_charAt_3b067_14 : decode cJ1_charAt_3b067 14 = .ok (.ireturn, 1) := by decide +kernel
theorem wi_1411 : Cond.methodLink RJ1 9 yJ0_checkIndex_df160 ∈ WA := zin 1411 (by decide +kernel) (by decide +kernel)
theorem wi_1413 : Cond.code yJ0_checkIndex_df160 cJ0_checkIndex_df160 2 (none) ∈ WA := zin 1413 (by decide +kernel) (by decide +kernel)
theorem wi_1412 : Cond.static yJ0_checkIndex_df160 ∈ WA := zin 1412 (by decide +kernel) (by decide +kernel)
theorem ms_J1_9 : zMs RJ1 9 mJ0_checkIndex_df160 2 := ⟨⟨wi_1411, wi_118, wi_1413, by decide, by decide +kernel⟩, wi_1412⟩
abbrev mJ0_charAt_5068e : Ym := (yJ0_charAt_5068e, cJ0_charAt_5068e, 2, some .char)
theorem dJ0_charAt_5068e_0 : decode cJ0_charAt_5068e 0 = .ok (.aload_n 0, 1) := by decide +kernel
theorem dJ0_charAt_5068e_1 : decode cJ0_charAt_5068e 1 = .ok (.invokevirtual 492, 3) := by decide +kernel
theorem dJ0_charAt_5068e_4 : decode cJ0_charAt_5068e 4 = .ok (.ifCond .eq 12, 3) := by decide +kernel
theorem dJ0_charAt_5068e_7 : decode cJ0_charAt_5068e 7 = .ok (.aload_n 0, 1) := by decide +kernel
theorem dJ0_charAt_5068e_8 : decode cJ0_charAt_5068e 8 = .ok (.getfield 9, 3) := by decide +kernel
theorem dJ0_charAt_5068e_11 : decode cJ0_charAt_5068e 11 = .ok (.iload_n 1, 1) := by decide +kernel
theorem dJ0_charAt_5068e_12 : decode cJ0_charAt_5068e 12 = .ok (.invokestatic 495, 3) := by decide +kernel
theorem dJ0_charAt_5068e_15 : decode cJ0_charAt_5068e 15 = .ok (.ireturn, 1) := by decide +kernel
theorem wi_1404 : Cond.methodLink RJ0 492 yJ0_isLatin1_aae02 ∈ WA := zin 1404 (by decide +kernel) (by decide +kernel)
theorem wi_1407 : Cond.code yJ0_isLatin1_aae02 cJ0_isLatin1_aae02 1 (some .boolean) ∈ WA := zin 1407 (by decide +kernel) (by decide +kernel)
theorem wi_1405 : Cond.instanceMethod yJ0_isLatin1_aae02 ∈ WA := zin 1405 (by decide +kernel) (by decide +kernel)
theorem wi_1406 : Cond.selects RJ0 yJ0_isLatin1_aae02 yJ0_isLatin1_aae02 ∈ WA := zin 1406 (by decide +kernel) (by decide +kernel)
theorem mv_J0_492 : zMv RJ0 492 RJ0 mJ0_isLatin1_aae02 0 := ⟨⟨wi_1404, wi_118, wi_1407, by decide, by decide +kernel⟩, wi_1405, wi_1406⟩
theorem wi_1408 : Cond.methodLink RJ0 495 yJ1_charAt_3b067 ∈ WA := zin 1408 (by decide +kernel) (by decide +kernel)
theorem wi_119 : Cond.initialized RJ1 ∈ WA := zin 119 (by decide +kernel) (by decide +kernel)
theorem wi_1410 : Cond.code yJ1_charAt_3b067 cJ1_charAt_3b067 2 (some .char) ∈ WA := zin 1410 (by decide +kernel) (by decide +kernel)
theorem wi_1409 : Cond.static yJ1_charAt_3b067 ∈ WA := zin 1409 (by decide +kernel) (by decide +kernel)
theorem ms_J0_495 : zMs RJ0 495 mJ1_charAt_3b067 2 := ⟨⟨wi_1408, wi_119, wi_1410, by decide, by decide +kernel⟩, wi_1409⟩
/-! text constants: length and charAt -/
def Rv (P : Option Value → Hi → Prop) : Rs → Hi → Prop
  | .inl v, J => P v J
  | .inr _, _ => False
theorem zsLen_b : ∀ i : Fin 23, 2 ≤ zsLen.getD i 0 ∧ zsLen.getD i 0 < 8 := by decide +kernel
theorem zsLen_h : ∀ i : Fin 23, nI (zsLen.getD i 0) >>> ((0 : Int32) &&& 31) = nI (zsLen.getD i 0) := by decide +kernel
def chV (i j : Nat) : Int32 := ((((zsByt.getD i []).getD j 0) &&& nI 255).toUInt32 % 65536).toInt32
theorem chV_n : ∀ i : Fin 23, ∀ j : Fin 8, (chV i j).toUInt32.toUInt16.toUInt32.toInt32 = chV i j := by decide +kernel
section Str
variable (G : Gx) (d : Nat) (I : Hi)
theorem ct_coder (i : Nat) (hi : i < zsN) : Ct G GAM mJ0_coder_7d493 d 0 [.ref (1000 + i)] I (Rp (some (.int 0)) I) := by
  refine Ct.mk [some (.ref (1000 + i))] ?_
  refine Rn.getsC dJ0_coder_7d493_0 wi_1398 ?_
  refine Rn.if_eq (tgt := 13) dJ0_coder_7d493_3 (by decide) (fun h9 => absurd h9 (by decide)) (fun _ => ?_)
  refine Rn.aload_n dJ0_coder_7d493_6 rfl rfl ?_
  refine Rn.getSC dJ0_coder_7d493_7 wi_1948 hi ?_
  refine Rn.goto 14 dJ0_coder_7d493_10 (by decide) ?_
  exact Rn.tret dJ0_coder_7d493_14 rfl rfl ⟨rfl, rfl⟩
theorem ct_isLatin1 (i : Nat) (hi : i < zsN) : Ct G GAM mJ0_isLatin1_aae02 d 0 [.ref (1000 + i)] I (Rp (some (.int (nI 1))) I) := by
  refine Ct.mk [some (.ref (1000 + i))] ?_
  refine Rn.getsC dJ0_isLatin1_aae02_0 wi_1398 ?_
  refine Rn.if_eq (tgt := 17) dJ0_isLatin1_aae02_3 (by decide) (fun h9 => absurd h9 (by decide)) (fun _ => ?_)
  refine Rn.aload_n dJ0_isLatin1_aae02_6 rfl rfl ?_
  refine Rn.getSC dJ0_isLatin1_aae02_7 wi_1948 hi ?_
  refine Rn.if_ne (tgt := 17) dJ0_isLatin1_aae02_10 (by decide) (fun h9 => absurd rfl h9) (fun _ => ?_)
  refine Rn.iconst (v := (nI 1)) dJ0_isLatin1_aae02_13 rfl ?_
  refine Rn.goto 18 dJ0_isLatin1_aae02_14 (by decide) ?_
  exact Rn.zret dJ0_isLatin1_aae02_18 rfl rfl ⟨rfl, rfl⟩
theorem ct_length (i : Nat) (hi : i < zsN) : Ct G GAM mJ0_length_8abf5 (d + 1) 0 [.ref (1000 + i)] I (Rp (some (.int (nI (zsLen.getD i 0)))) I) := by
  refine Ct.mk [some (.ref (1000 + i))] ?_
  refine Rn.aload_n dJ0_length_8abf5_0 rfl rfl ?_
  refine Rn.getSV dJ0_length_8abf5_1 wi_1947 hi ?_
  refine Rn.lenS dJ0_length_8abf5_4 hi ?_
  refine Rn.aload_n dJ0_length_8abf5_5 rfl rfl ?_
  refine Rn.callVs (As := []) dJ0_length_8abf5_6 mv_J0_335 hi rfl rfl (Nat.le_of_ble_eq_true rfl) (ct_coder G d I i hi) ?_
  refine Rn.ishr dJ0_length_8abf5_9 ?_
  exact Rn.iret dJ0_length_8abf5_10 rfl ⟨by rw [show nI (zsLen.getD i 0) >>> ((0 : Int32) &&& 31) = nI (zsLen.getD i 0) from zsLen_h ⟨i, hi⟩], rfl⟩
theorem ct_preA (j n : Nat) (hj : j < n) (hn : n < 1000) : Ct G GAM mJ3_checkIndex_8e157 d 0 [.int (nI j), .int (nI n), .null] I (Rp (some (.int (nI j))) I) := by
  refine Ct.mk [some (.int (nI j)), some (.int (nI n)), some .null] ?_
  refine Rn.iload_n dJ3_checkIndex_8e157_0 rfl rfl ?_
  refine Rn.if_ltN dJ3_checkIndex_8e157_1 ?_ 9
  refine Rn.iload_n dJ3_checkIndex_8e157_4 rfl rfl ?_
  refine Rn.iload_n dJ3_checkIndex_8e157_5 rfl rfl ?_
  refine Rn.icmp_ltN dJ3_checkIndex_8e157_6 16 (fun _ => ?_) (fun h9 => by exfalso; omega)
  refine Rn.iload_n dJ3_checkIndex_8e157_16 rfl rfl ?_
  exact Rn.iret dJ3_checkIndex_8e157_17 rfl (⟨rfl, rfl⟩)
theorem ct_preB (j n : Nat) (hj : j < n) (hn : n < 1000) : Ct G GAM mJ3_checkIndex_8e157 d 0 [.int (nI j), .int (nI n), .ref 1999] I (Rp (some (.int (nI j))) I) := by
  refine Ct.mk [some (.int (nI j)), some (.int (nI n)), some (.ref 1999)] ?_
  refine Rn.iload_n dJ3_checkIndex_8e157_0 rfl rfl ?_
  refine Rn.if_ltN dJ3_checkIndex_8e157_1 ?_ 9
  refine Rn.iload_n dJ3_checkIndex_8e157_4 rfl rfl ?_
  refine Rn.iload_n dJ3_checkIndex_8e157_5 rfl rfl ?_
  refine Rn.icmp_ltN dJ3_checkIndex_8e157_6 16 (fun _ => ?_) (fun h9 => by exfalso; omega)
  refine Rn.iload_n dJ3_checkIndex_8e157_16 rfl rfl ?_
  exact Rn.iret dJ3_checkIndex_8e157_17 rfl (⟨rfl, rfl⟩)
theorem ct_chk (j n : Nat) (hj : j < n) (hn : n < 1000) : Ct G GAM mJ0_checkIndex_df160 (d + 1) 0 [.int (nI j), .int (nI n)] I (Rp none I) := by
  refine Ct.mk [some (.int (nI j)), some (.int (nI n))] ?_
  refine Rn.iload_n dJ0_checkIndex_df160_0 rfl rfl ?_
  refine Rn.iload_n dJ0_checkIndex_df160_1 rfl rfl ?_
  refine Rn.getsQ dJ0_checkIndex_df160_2 wi_1414 (fun v hv => ?_)
  rcases hv with rfl | rfl
  · refine Rn.callSp (As := [_, _, _]) dJ0_checkIndex_df160_5 ms_J0_1059 rfl rfl (Nat.le_of_ble_eq_true rfl) (ct_preA G d I j n hj hn) ?_
    refine Rn.pop dJ0_checkIndex_df160_8 rfl ?_
    exact Rn.vret dJ0_checkIndex_df160_9 rfl ⟨rfl, rfl⟩
  · refine Rn.callSp (As := [_, _, _]) dJ0_checkIndex_df160_5 ms_J0_1059 rfl rfl (Nat.le_of_ble_eq_true rfl) (ct_preB G d I j n hj hn) ?_
    refine Rn.pop dJ0_checkIndex_df160_8 rfl ?_
    exact Rn.vret dJ0_checkIndex_df160_9 rfl ⟨rfl, rfl⟩
theorem ct_lat (i j : Nat) (hi : i < zsN) (hj : j < zsLen.getD i 0) : Ct G GAM mJ1_charAt_3b067 (d + 2) 0 [.ref (1100 + i), .int (nI j)] I (Rp (some (.int (chV i j))) I) := by
  have hb : zsLen.getD i 0 < 8 := (zsLen_b ⟨i, hi⟩).2
  refine Ct.mk [some (.ref (1100 + i)), some (.int (nI j))] ?_
  refine Rn.iload_n dJ1_charAt_3b067_0 rfl rfl ?_
  refine Rn.aload_n dJ1_charAt_3b067_1 rfl rfl ?_
  refine Rn.lenS dJ1_charAt_3b067_2 hi ?_
  refine Rn.callSp (As := [_, _]) dJ1_charAt_3b067_3 ms_J1_9 rfl rfl (Nat.le_of_ble_eq_true rfl) (ct_chk G d I j (zsLen.getD i 0) hj (by omega)) ?_
  refine Rn.aload_n dJ1_charAt_3b067_6 rfl rfl ?_
  refine Rn.iload_n dJ1_charAt_3b067_7 rfl rfl ?_
  refine Rn.baldS dJ1_charAt_3b067_8 hi hj (by omega) ?_
  refine Rn.sipush (v := (nI 255)) dJ1_charAt_3b067_9 rfl ?_
  refine Rn.iand dJ1_charAt_3b067_12 ?_
  refine Rn.i2c dJ1_charAt_3b067_13 ?_
  exact Rn.tret dJ1_charAt_3b067_14 rfl (congrArg Value.int (chV_n ⟨i, hi⟩ ⟨j, by omega⟩)) ⟨rfl, rfl⟩
theorem ct_charAt (i j : Nat) (hi : i < zsN) (hj : j < zsLen.getD i 0) : Ct G GAM mJ0_charAt_5068e (d + 3) 0 [.ref (1000 + i), .int (nI j)] I (Rp (some (.int (chV i j))) I) := by
  have hb : zsLen.getD i 0 < 8 := (zsLen_b ⟨i, hi⟩).2
  refine Ct.mk [some (.ref (1000 + i)), some (.int (nI j))] ?_
  refine Rn.aload_n dJ0_charAt_5068e_0 rfl rfl ?_
  refine Rn.callVs (As := []) dJ0_charAt_5068e_1 mv_J0_492 hi rfl rfl (Nat.le_of_ble_eq_true rfl) (ct_isLatin1 G (d + 2) I i hi) ?_
  refine Rn.if_eq (tgt := 16) dJ0_charAt_5068e_4 (by decide) (fun h9 => absurd h9 (by decide)) (fun _ => ?_)
  refine Rn.aload_n dJ0_charAt_5068e_7 rfl rfl ?_
  refine Rn.getSV dJ0_charAt_5068e_8 wi_1947 hi ?_
  refine Rn.iload_n dJ0_charAt_5068e_11 rfl rfl ?_
  refine Rn.callSp (As := [_, _]) dJ0_charAt_5068e_12 ms_J0_495 rfl rfl (Nat.le_of_ble_eq_true rfl) (ct_lat G d I i j hi hj) ?_
  exact Rn.tret dJ0_charAt_5068e_15 rfl (congrArg Value.int (chV_n ⟨i, hi⟩ ⟨j, by omega⟩)) ⟨rfl, rfl⟩
end Str
