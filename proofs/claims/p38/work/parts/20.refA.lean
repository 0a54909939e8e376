abbrev mX10_throwsIf : Ym := (yX10_throwsIf, cX10_throwsIf, 3, some .boolean)
theorem dX10_throwsIf_0 : decode cX10_throwsIf 0 = .ok (.iload_n 1, 1) := by decide +kernel
theorem dX10_throwsIf_1 : decode cX10_throwsIf 1 = .ok (.ifCond .eq 8, 3) := by decide +kernel
theorem dX10_throwsIf_4 : decode cX10_throwsIf 4 = .ok (.aload_n 0, 1) := by decide +kernel
theorem dX10_throwsIf_5 : decode cX10_throwsIf 5 = .ok (.iload_n 2, 1) := by decide +kernel
theorem dX10_throwsIf_6 : decode cX10_throwsIf 6 = .ok (.putfield 3, 3) := by decide +kernel
theorem uw_X10 : ∀ w ∈ u_ws RX10 TX10 23, w ∈ WA := by decide +kernel
theorem wi_1259 : Cond.fieldLink RX10 3 "BorrowedLuckModel" "thrown" "I" ∈ WA := zin 1259 (by decide +kernel) (by decide +kernel)
theorem fp_X10_3_9 : zFp RX10 3 9 0 .int := ⟨RX10, TX10, 23, "BorrowedLuckModel", tyX10, rfl, by decide, uw_X10, Or.inl rfl, Or.inl wi_1259, tyX10_ok, nmX10, rfl, by decide +kernel⟩
theorem dX10_throwsIf_9 : decode cX10_throwsIf 9 = .ok (.iload_n 1, 1) := by decide +kernel
theorem dX10_throwsIf_10 : decode cX10_throwsIf 10 = .ok (.ireturn, 1) := by decide +kernel
abbrev mX10_in : Ym := (yX10_in, cX10_in, 3, some .boolean)
theorem dX10_in_0 : decode cX10_in 0 = .ok (.iload_n 0, 1) := by decide +kernel
theorem dX10_in_1 : decode cX10_in 1 = .ok (.iload_n 1, 1) := by decide +kernel
theorem dX10_in_2 : decode cX10_in 2 = .ok (.if_icmp .lt 12, 3) := by decide +kernel
theorem dX10_in_14 : decode cX10_in 14 = .ok (.iconst 0, 1) := by decide +kernel
theorem dX10_in_15 : decode cX10_in 15 = .ok (.ireturn, 1) := by decide +kernel
theorem dX10_in_5 : decode cX10_in 5 = .ok (.iload_n 0, 1) := by decide +kernel
theorem dX10_in_6 : decode cX10_in 6 = .ok (.iload_n 2, 1) := by decide +kernel
theorem dX10_in_7 : decode cX10_in 7 = .ok (.if_icmp .gt 7, 3) := by decide +kernel
theorem dX10_in_10 : decode cX10_in 10 = .ok (.iconst 1, 1) := by decide +kernel
theorem dX10_in_11 : decode cX10_in 11 = .ok (.goto 4, 3) := by decide +kernel
abbrev mX10_women : Ym := (yX10_women, cX10_women, 1, some .int)
theorem dX10_women_0 : decode cX10_women 0 = .ok (.aload_n 0, 1) := by decide +kernel
theorem dX10_women_1 : decode cX10_women 1 = .ok (.getfield 13, 3) := by decide +kernel
theorem wi_1260 : Cond.fieldLink RX10 13 "BorrowedLuckModel" "world" "[I" ∈ WA := zin 1260 (by decide +kernel) (by decide +kernel)
theorem fd_X10_13_9 : zFd RX10 13 9 1 := ⟨RX10, TX10, 23, "BorrowedLuckModel", rfl, by decide, uw_X10, Or.inl rfl, Or.inl wi_1260⟩
theorem dX10_women_4 : decode cX10_women 4 = .ok (.iconst 0, 1) := by decide +kernel
theorem dX10_women_5 : decode cX10_women 5 = .ok (.iaload, 1) := by decide +kernel
theorem dX10_women_6 : decode cX10_women 6 = .ok (.ireturn, 1) := by decide +kernel
abbrev mX10_womanAt : Ym := (yX10_womanAt, cX10_womanAt, 2, some .int)
theorem dX10_womanAt_0 : decode cX10_womanAt 0 = .ok (.bipush 9, 2) := by decide +kernel
theorem dX10_womanAt_2 : decode cX10_womanAt 2 = .ok (.bipush 7, 2) := by decide +kernel
theorem dX10_womanAt_4 : decode cX10_womanAt 4 = .ok (.iload_n 0, 1) := by decide +kernel
theorem dX10_womanAt_5 : decode cX10_womanAt 5 = .ok (.imul, 1) := by decide +kernel
theorem dX10_womanAt_6 : decode cX10_womanAt 6 = .ok (.iadd, 1) := by decide +kernel
theorem dX10_womanAt_7 : decode cX10_womanAt 7 = .ok (.iload_n 1, 1) := by decide +kernel
theorem dX10_womanAt_8 : decode cX10_womanAt 8 = .ok (.iadd, 1) := by decide +kernel
theorem dX10_womanAt_9 : decode cX10_womanAt 9 = .ok (.ireturn, 1) := by decide +kernel
abbrev mX10_of : Ym := (yX10_of, cX10_of, 3, some .int)
theorem dX10_of_0 : decode cX10_of 0 = .ok (.aload_n 0, 1) := by decide +kernel
theorem dX10_of_1 : decode cX10_of 1 = .ok (.getfield 13, 3) := by decide +kernel
theorem dX10_of_4 : decode cX10_of 4 = .ok (.iload_n 1, 1) := by decide +kernel
theorem dX10_of_5 : decode cX10_of 5 = .ok (.iload_n 2, 1) := by decide +kernel
theorem dX10_of_6 : decode cX10_of 6 = .ok (.invokestatic 61, 3) := by decide +kernel
theorem wi_1446 : Cond.methodLink RX10 61 yX10_womanAt ∈ WA := zin 1446 (by decide +kernel) (by decide +kernel)
theorem wi_110 : Cond.initialized RX10 ∈ WA := zin 110 (by decide +kernel) (by decide +kernel)
theorem wi_1448 : Cond.code yX10_womanAt cX10_womanAt 2 (some .int) ∈ WA := zin 1448 (by decide +kernel) (by decide +kernel)
theorem wi_1447 : Cond.static yX10_womanAt ∈ WA := zin 1447 (by decide +kernel) (by decide +kernel)
theorem ms_X10_61 : zMs RX10 61 mX10_womanAt 2 := ⟨⟨wi_1446, wi_110, wi_1448, by decide, by decide +kernel⟩, wi_1447⟩
theorem dX10_of_9 : decode cX10_of 9 = .ok (.iaload, 1) := by decide +kernel
theorem dX10_of_10 : decode cX10_of 10 = .ok (.ireturn, 1) := by decide +kernel
abbrev mX0_her : Ym := (yX0_her, cX0_her, 4, some .int)
theorem dX0_her_0 : decode cX0_her 0 = .ok (.iload_n 1, 1) := by decide +kernel
theorem dX0_her_1 : decode cX0_her 1 = .ok (.ifCond .lt 23, 3) := by decide +kernel
theorem dX0_her_4 : decode cX0_her 4 = .ok (.iload_n 1, 1) := by decide +kernel
theorem dX0_her_5 : decode cX0_her 5 = .ok (.bipush 8, 2) := by decide +kernel
theorem dX0_her_7 : decode cX0_her 7 = .ok (.if_icmp .ge 17, 3) := by decide +kernel
theorem dX0_her_10 : decode cX0_her 10 = .ok (.iload_n 2, 1) := by decide +kernel
theorem dX0_her_11 : decode cX0_her 11 = .ok (.ifCond .lt 13, 3) := by decide +kernel
theorem dX0_her_14 : decode cX0_her 14 = .ok (.iload_n 2, 1) := by decide +kernel
theorem dX0_her_15 : decode cX0_her 15 = .ok (.bipush 7, 2) := by decide +kernel
theorem dX0_her_17 : decode cX0_her 17 = .ok (.if_icmp .ge 7, 3) := by decide +kernel
theorem dX0_her_20 : decode cX0_her 20 = .ok (.iconst 1, 1) := by decide +kernel
theorem dX0_her_21 : decode cX0_her 21 = .ok (.goto 4, 3) := by decide +kernel
theorem dX0_her_25 : decode cX0_her 25 = .ok (.istore_n 3, 1) := by decide +kernel
theorem dX0_her_26 : decode cX0_her 26 = .ok (.iload_n 3, 1) := by decide +kernel
theorem dX0_her_27 : decode cX0_her 27 = .ok (.ifCond .eq 17, 3) := by decide +kernel
theorem dX0_her_30 : decode cX0_her 30 = .ok (.aload_n 0, 1) := by decide +kernel
theorem dX0_her_31 : decode cX0_her 31 = .ok (.getfield 21, 3) := by decide +kernel
theorem uw_X0 : ∀ w ∈ u_ws RX0 TX0 12, w ∈ WA := by decide +kernel
theorem wi_201 : Cond.fieldLink RX0 21 "BorrowedLuck$Coast" "hers" "[I" ∈ WA := zin 201 (by decide +kernel) (by decide +kernel)
theorem fd_X0_21_0 : zFd RX0 21 0 9 := ⟨RX0, TX0, 12, "BorrowedLuck$Coast", rfl, by decide, uw_X0, Or.inl rfl, Or.inl wi_201⟩
theorem dX0_her_34 : decode cX0_her 34 = .ok (.iload_n 1, 1) := by decide +kernel
theorem dX0_her_35 : decode cX0_her 35 = .ok (.bipush 7, 2) := by decide +kernel
theorem dX0_her_37 : decode cX0_her 37 = .ok (.imul, 1) := by decide +kernel
theorem dX0_her_38 : decode cX0_her 38 = .ok (.iload_n 2, 1) := by decide +kernel
theorem dX0_her_39 : decode cX0_her 39 = .ok (.iadd, 1) := by decide +kernel
theorem dX0_her_40 : decode cX0_her 40 = .ok (.iaload, 1) := by decide +kernel
theorem dX0_her_41 : decode cX0_her 41 = .ok (.goto 4, 3) := by decide +kernel
theorem dX0_her_45 : decode cX0_her 45 = .ok (.ireturn, 1) := by decide +kernel
abbrev mX10_luckOf : Ym := (yX10_luckOf, cX10_luckOf, 4, some .int)
theorem dX10_luckOf_0 : decode cX10_luckOf 0 = .ok (.iconst 0, 1) := by decide +kernel
theorem dX10_luckOf_1 : decode cX10_luckOf 1 = .ok (.istore_n 2, 1) := by decide +kernel
theorem dX10_luckOf_2 : decode cX10_luckOf 2 = .ok (.iconst 0, 1) := by decide +kernel
theorem dX10_luckOf_3 : decode cX10_luckOf 3 = .ok (.istore_n 3, 1) := by decide +kernel
theorem dX10_luckOf_4 : decode cX10_luckOf 4 = .ok (.iload_n 3, 1) := by decide +kernel
theorem dX10_luckOf_5 : decode cX10_luckOf 5 = .ok (.iconst 4, 1) := by decide +kernel
theorem dX10_luckOf_6 : decode cX10_luckOf 6 = .ok (.if_icmp .ge 18, 3) := by decide +kernel
theorem dX10_luckOf_9 : decode cX10_luckOf 9 = .ok (.iload_n 2, 1) := by decide +kernel
theorem dX10_luckOf_10 : decode cX10_luckOf 10 = .ok (.aload_n 0, 1) := by decide +kernel
theorem dX10_luckOf_11 : decode cX10_luckOf 11 = .ok (.iload_n 1, 1) := by decide +kernel
theorem dX10_luckOf_12 : decode cX10_luckOf 12 = .ok (.iload_n 3, 1) := by decide +kernel
theorem dX10_luckOf_13 : decode cX10_luckOf 13 = .ok (.invokevirtual 65, 3) := by decide +kernel
theorem wi_1573 : Cond.methodLink RX10 65 yX10_of ∈ WA := zin 1573 (by decide +kernel) (by decide +kernel)
theorem wi_1576 : Cond.code yX10_of cX10_of 3 (some .int) ∈ WA := zin 1576 (by decide +kernel) (by decide +kernel)
theorem wi_1575 : Cond.instanceMethod yX10_of ∈ WA := zin 1575 (by decide +kernel) (by decide +kernel)
theorem wi_56 : Cond.selects RX10 yX10_of yX10_of ∈ WA := zin 56 (by decide +kernel) (by decide +kernel)
theorem mv_X10_65 : zMv RX10 65 RX10 mX10_of 2 := ⟨⟨wi_1573, wi_110, wi_1576, by decide, by decide +kernel⟩, wi_1575, wi_56⟩
theorem dX10_luckOf_16 : decode cX10_luckOf 16 = .ok (.iadd, 1) := by decide +kernel
theorem dX10_luckOf_17 : decode cX10_luckOf 17 = .ok (.istore_n 2, 1) := by decide +kernel
theorem dX10_luckOf_18 : decode cX10_luckOf 18 = .ok (.iinc 3 1, 3) := by decide +kernel
theorem dX10_luckOf_21 : decode cX10_luckOf 21 = .ok (.goto (-17), 3) := by decide +kernel
theorem dX10_luckOf_24 : decode cX10_luckOf 24 = .ok (.iload_n 2, 1) := by decide +kernel
theorem dX10_luckOf_25 : decode cX10_luckOf 25 = .ok (.ireturn, 1) := by decide +kernel
def bI (p : Prop) [Decidable p] : Int32 := if p then 1 else 0
theorem bI_t {p : Prop} [Decidable p] (h : p) : bI p = 1 := if_pos h
theorem bI_f {p : Prop} [Decidable p] (h : ¬ p) : bI p = 0 := if_neg h
theorem Rn.secI {G : Gx} {Ga : List Shp} {Y : Ym} {kx : Kx} {d b pc : Nat} {ls : List (Option Value)} {st : List Value} {I : Hi} {v : Value} {x : Int32} (y : Int32) (h : x = y) (k : Rn G Ga Y kx d b pc ls (v :: .int y :: st) I) : Rn G Ga Y kx d b pc ls (v :: .int x :: st) I := h ▸ k
theorem bI_z {p : Prop} [Decidable p] : bI p = 0 ↔ ¬ p := by
  by_cases h : p
  · rw [bI_t h]; exact ⟨fun q => absurd q (by decide), fun q => absurd h q⟩
  · rw [bI_f h]; exact ⟨fun _ => h, fun _ => rfl⟩
theorem bI_nz {p : Prop} [Decidable p] : ¬ bI p = 0 ↔ p := by rw [bI_z]; exact Decidable.not_not
theorem bI_1 {p : Prop} [Decidable p] : bI p = 1 ↔ p := by
  by_cases h : p
  · rw [bI_t h]; exact ⟨fun _ => h, fun _ => rfl⟩
  · rw [bI_f h]; exact ⟨fun q => absurd q (by decide), fun q => absurd q h⟩
theorem bI_congr {p q : Prop} [Decidable p] [Decidable q] (h : p ↔ q) : bI p = bI q := by
  by_cases hp : p
  · rw [bI_t hp, bI_t (h.mp hp)]
  · rw [bI_f hp, bI_f (fun hq => hp (h.mpr hq))]
theorem bI_nar {p : Prop} [Decidable p] : narrow .boolean (.int (bI p)) = .int (bI p) := by
  by_cases h : p
  · rw [bI_t h]; rfl
  · rw [bI_f h]; rfl
section RnB
variable {G : Gx} {Ga : List Shp} {Y : Ym} {kx : Kx} {d b pc pc' : Nat} {ls : List (Option Value)} {st : List Value} {I : Hi} {p : Prop}
theorem Rn.if_eqB [Decidable p] {off : Int} (hd : decode Y.2.1 pc = .ok (.ifCond .eq off, 3)) (tgt : Nat) (kt : ¬ p → Rn G Ga Y kx d b tgt ls st I) (kf : p → Rn G Ga Y kx d b pc' ls st I) (ht : (pc : Int) + off = (tgt : Int) := by decide) (hp : pc + 3 = pc' := by rfl) : Rn G Ga Y kx d b pc ls (.int (bI p) :: st) I := Rn.if_eq hd ht (fun h => kt (bI_z.mp h)) (fun h => kf (bI_nz.mp h)) hp
theorem Rn.if_neB [Decidable p] {off : Int} (hd : decode Y.2.1 pc = .ok (.ifCond .ne off, 3)) (tgt : Nat) (kt : p → Rn G Ga Y kx d b tgt ls st I) (kf : ¬ p → Rn G Ga Y kx d b pc' ls st I) (ht : (pc : Int) + off = (tgt : Int) := by decide) (hp : pc + 3 = pc' := by rfl) : Rn G Ga Y kx d b pc ls (.int (bI p) :: st) I := Rn.if_ne hd ht (fun h => kt (bI_nz.mp h)) (fun h => kf (bI_z.mp h)) hp
end RnB
section RefA
variable (G : Gx) (d : Nat) (I : Hi)
theorem ct_throwsIf (p : Prop) [Decidable p] (c : Int32) : Ct G GAM mX10_throwsIf d 0 [.ref 94, .int (bI p), .int c] I (Rp (some (.int (bI p))) (if p then zup I 94 0 c else I)) := by
  by_cases h : p
  · rw [bI_t h, if_pos h]
    refine Ct.mk [some (.ref 94), some (.int 1), some (.int c)] ?_
    refine Rn.iload_n dX10_throwsIf_0 rfl rfl ?_
    refine Rn.if_eq (tgt := 9) dX10_throwsIf_1 (by decide) (fun h9 => by exfalso; exact absurd h9 (by decide)) (fun _ => ?_)
    refine Rn.aload_n dX10_throwsIf_4 rfl rfl ?_
    refine Rn.iload_n dX10_throwsIf_5 rfl rfl ?_
    refine Rn.putI dX10_throwsIf_6 fp_X10_3_9 (by first | rfl | exact gC0 (by assumption) | exact gL0 (by assumption)) rfl ?_
    refine Rn.iload_n dX10_throwsIf_9 rfl rfl ?_
    exact Rn.zret dX10_throwsIf_10 rfl rfl (⟨rfl, rfl⟩)
  · rw [bI_f h, if_neg h]
    refine Ct.mk [some (.ref 94), some (.int 0), some (.int c)] ?_
    refine Rn.iload_n dX10_throwsIf_0 rfl rfl ?_
    refine Rn.if_eq (tgt := 9) dX10_throwsIf_1 (by decide) (fun _ => ?_) (fun h9 => by exfalso; exact h9 rfl)
    refine Rn.iload_n dX10_throwsIf_9 rfl rfl ?_
    exact Rn.zret dX10_throwsIf_10 rfl rfl (⟨rfl, rfl⟩)
theorem ct_in (v lo hi : Int32) : Ct G GAM mX10_in d 0 [.int v, .int lo, .int hi] I (Rp (some (.int (bI (lo ≤ v ∧ v ≤ hi)))) I) := by
  refine Ct.mk [some (.int v), some (.int lo), some (.int hi)] ?_
  refine Rn.iload_n dX10_in_0 rfl rfl ?_
  refine Rn.iload_n dX10_in_1 rfl rfl ?_
  refine Rn.icmp_lt (tgt := 14) dX10_in_2 (by decide) (fun h1 => ?_) (fun h1 => ?_)
  · refine Rn.iconst (v := (nI 0)) dX10_in_14 rfl ?_
    exact Rn.zret dX10_in_15 rfl rfl (⟨by rw [bI_f (fun q => absurd h1 (Int32.not_lt.mpr q.1))]; rfl, rfl⟩)
  · refine Rn.iload_n dX10_in_5 rfl rfl ?_
    refine Rn.iload_n dX10_in_6 rfl rfl ?_
    refine Rn.icmp_gt (tgt := 14) dX10_in_7 (by decide) (fun h2 => ?_) (fun h2 => ?_)
    · refine Rn.iconst (v := (nI 0)) dX10_in_14 rfl ?_
      exact Rn.zret dX10_in_15 rfl rfl (⟨by rw [bI_f (fun q => absurd h2 (Int32.not_lt.mpr q.2))]; rfl, rfl⟩)
    · refine Rn.iconst (v := (nI 1)) dX10_in_10 rfl ?_
      refine Rn.goto 15 dX10_in_11 (by decide) ?_
      exact Rn.zret dX10_in_15 rfl rfl (⟨by rw [bI_t ⟨Int32.not_lt.mp h1, Int32.not_lt.mp h2⟩]; rfl, rfl⟩)
theorem ct_women : Ct G GAM mX10_women d 0 [.ref 94] I (Rp (some (.int (I 95 0))) I) := by
  refine Ct.mk [some (.ref 94)] ?_
  refine Rn.aload_n dX10_women_0 rfl rfl ?_
  refine Rn.getR dX10_women_1 fd_X10_13_9 (by first | rfl | exact gC0 (by assumption) | exact gL0 (by assumption)) rfl ?_
  refine Rn.iconst (v := (nI 0)) dX10_women_4 rfl ?_
  refine Rn.ialdN dX10_women_5 (by first | rfl | exact gC1 (by assumption) | exact gC2 (by assumption) | exact gC3 (by assumption) | exact gL1 (by assumption) | exact gL2 (by assumption) | exact gL3 (by assumption) | exact gL4 (by assumption) | exact gL5 (by assumption) | exact gL6 (by assumption)) ?_
  exact Rn.iret dX10_women_6 rfl (⟨rfl, rfl⟩)
theorem ct_womanAt (w k : Nat) : Ct G GAM mX10_womanAt d 0 [.int (nI w), .int (nI k)] I (Rp (some (.int (nI (9 + 7 * w + k)))) I) := by
  refine Ct.mk [some (.int (nI w)), some (.int (nI k))] ?_
  refine Rn.bipush (v := (nI 9)) dX10_womanAt_0 rfl ?_
  refine Rn.bipush (v := (nI 7)) dX10_womanAt_2 rfl ?_
  refine Rn.iload_n dX10_womanAt_4 rfl rfl ?_
  refine Rn.imul dX10_womanAt_5 ?_
  refine Rn.iadd dX10_womanAt_6 ?_
  refine Rn.iload_n dX10_womanAt_7 rfl rfl ?_
  refine Rn.iadd dX10_womanAt_8 ?_
  exact Rn.iret dX10_womanAt_9 rfl (⟨by simp only [nI_add, pk_mul], rfl⟩)
theorem ct_of (w k : Nat) (h : 9 + 7 * w + k < 2075) : Ct G GAM mX10_of (d + 1) 0 [.ref 94, .int (nI w), .int (nI k)] I (Rp (some (.int (I 95 (9 + 7 * w + k)))) I) := by
  refine Ct.mk [some (.ref 94), some (.int (nI w)), some (.int (nI k))] ?_
  refine Rn.aload_n dX10_of_0 rfl rfl ?_
  refine Rn.getR dX10_of_1 fd_X10_13_9 (by first | rfl | exact gC0 (by assumption) | exact gL0 (by assumption)) rfl ?_
  refine Rn.iload_n dX10_of_4 rfl rfl ?_
  refine Rn.iload_n dX10_of_5 rfl rfl ?_
  refine Rn.callSp (As := [_, _]) dX10_of_6 ms_X10_61 rfl rfl (Nat.le_of_ble_eq_true rfl) (ct_womanAt G _ _ _ _) ?_
  refine Rn.ialdN dX10_of_9 (by first | rfl | exact gC1 (by assumption) | exact gC2 (by assumption) | exact gC3 (by assumption) | exact gL1 (by assumption) | exact gL2 (by assumption) | exact gL3 (by assumption) | exact gL4 (by assumption) | exact gL5 (by assumption) | exact gL6 (by assumption)) ?_
  exact Rn.iret dX10_of_10 rfl (⟨rfl, rfl⟩)
theorem ct_her {c w k : Nat} (hc : isC c) (hw : w < 8) (hk : k < 7) : Ct G GAM mX0_her d 0 [.ref c, .int (nI w), .int (nI k)] I (Rp (some (.int (I (c + 1) (7 * w + k)))) I) := by
  refine Ct.mk [some (.ref c), some (.int (nI w)), some (.int (nI k)), none] ?_
  refine Rn.iload_n dX0_her_0 rfl rfl ?_
  refine Rn.if_ltN dX0_her_1 ?_ 24
  refine Rn.iload_n dX0_her_4 rfl rfl ?_
  refine Rn.bipush (v := (nI 8)) dX0_her_5 rfl ?_
  refine Rn.icmp_geN dX0_her_7 24 (fun h9 => by exfalso; omega) (fun _ => ?_)
  refine Rn.iload_n dX0_her_10 rfl rfl ?_
  refine Rn.if_ltN dX0_her_11 ?_ 24
  refine Rn.iload_n dX0_her_14 rfl rfl ?_
  refine Rn.bipush (v := (nI 7)) dX0_her_15 rfl ?_
  refine Rn.icmp_geN dX0_her_17 24 (fun h9 => by exfalso; omega) (fun _ => ?_)
  refine Rn.iconst (v := (nI 1)) dX0_her_20 rfl ?_
  refine Rn.goto 25 dX0_her_21 (by decide) ?_
  refine Rn.istore_n dX0_her_25 rfl (by decide) ?_
  refine Rn.iload_n dX0_her_26 rfl rfl ?_
  refine Rn.if_eqN dX0_her_27 44 (fun h9 => by exfalso; omega) (fun _ => ?_)
  refine Rn.aload_n dX0_her_30 rfl rfl ?_
  refine Rn.getR dX0_her_31 fd_X0_21_0 (by first | rfl | exact gC0 (by assumption) | exact gL0 (by assumption)) rfl ?_
  refine Rn.iload_n dX0_her_34 rfl rfl ?_
  refine Rn.bipush (v := (nI 7)) dX0_her_35 rfl ?_
  refine Rn.imul dX0_her_37 ?_
  refine Rn.iload_n dX0_her_38 rfl rfl ?_
  refine Rn.iadd dX0_her_39 ?_
  refine Rn.topI (nI (7 * w + k)) (by first | rfl | (simp only [nI_add, pk_mul, nI_1]; done) | (simp only [nI_add, pk_mul, nI_1]; congr 1; omega)) ?_
  refine Rn.ialdN dX0_her_40 (by first | rfl | exact gC1 (by assumption) | exact gC2 (by assumption) | exact gC3 (by assumption) | exact gL1 (by assumption) | exact gL2 (by assumption) | exact gL3 (by assumption) | exact gL4 (by assumption) | exact gL5 (by assumption) | exact gL6 (by assumption)) ?_
  refine Rn.goto 45 dX0_her_41 (by decide) ?_
  exact Rn.iret dX0_her_45 rfl (⟨rfl, rfl⟩)
theorem ct_luckOf (w : Nat) (h : w < 8) : Ct G GAM mX10_luckOf (d + 2) 0 [.ref 94, .int (nI w)] I (Rp (some (.int (I 95 (9 + 7 * w + 0) + I 95 (9 + 7 * w + 1) + I 95 (9 + 7 * w + 2) + I 95 (9 + 7 * w + 3)))) I) := by
  refine Ct.mk [some (.ref 94), some (.int (nI w)), none, none] ?_
  refine Rn.iconst (v := (nI 0)) dX10_luckOf_0 rfl ?_
  refine Rn.istore_n dX10_luckOf_1 rfl (by decide) ?_
  refine Rn.iconst (v := (nI 0)) dX10_luckOf_2 rfl ?_
  refine Rn.istore_n dX10_luckOf_3 rfl (by decide) ?_
  refine Rn.iload_n dX10_luckOf_4 rfl rfl ?_
  refine Rn.iconst (v := (nI 4)) dX10_luckOf_5 rfl ?_
  refine Rn.icmp_geN dX10_luckOf_6 24 (fun h9 => by exfalso; omega) (fun _ => ?_)
  refine Rn.iload_n dX10_luckOf_9 rfl rfl ?_
  refine Rn.aload_n dX10_luckOf_10 rfl rfl ?_
  refine Rn.iload_n dX10_luckOf_11 rfl rfl ?_
  refine Rn.iload_n dX10_luckOf_12 rfl rfl ?_
  refine Rn.callVp (As := [_, _]) dX10_luckOf_13 mv_X10_65 (by first | rfl | exact gC0 (by assumption) | exact gL0 (by assumption)) rfl rfl rfl (Nat.le_of_ble_eq_true rfl) (ct_of G _ _ _ _ (by omega)) ?_
  refine Rn.iadd dX10_luckOf_16 ?_
  refine Rn.istore_n dX10_luckOf_17 rfl (by decide) ?_
  refine Rn.iincN dX10_luckOf_18 rfl (by decide) ?_
  refine Rn.goto 4 dX10_luckOf_21 (by decide) ?_
  refine Rn.iload_n dX10_luckOf_4 rfl rfl ?_
  refine Rn.iconst (v := (nI 4)) dX10_luckOf_5 rfl ?_
  refine Rn.icmp_geN dX10_luckOf_6 24 (fun h9 => by exfalso; omega) (fun _ => ?_)
  refine Rn.iload_n dX10_luckOf_9 rfl rfl ?_
  refine Rn.aload_n dX10_luckOf_10 rfl rfl ?_
  refine Rn.iload_n dX10_luckOf_11 rfl rfl ?_
  refine Rn.iload_n dX10_luckOf_12 rfl rfl ?_
  refine Rn.callVp (As := [_, _]) dX10_luckOf_13 mv_X10_65 (by first | rfl | exact gC0 (by assumption) | exact gL0 (by assumption)) rfl rfl rfl (Nat.le_of_ble_eq_true rfl) (ct_of G _ _ _ _ (by omega)) ?_
  refine Rn.iadd dX10_luckOf_16 ?_
  refine Rn.istore_n dX10_luckOf_17 rfl (by decide) ?_
  refine Rn.iincN dX10_luckOf_18 rfl (by decide) ?_
  refine Rn.goto 4 dX10_luckOf_21 (by decide) ?_
  refine Rn.iload_n dX10_luckOf_4 rfl rfl ?_
  refine Rn.iconst (v := (nI 4)) dX10_luckOf_5 rfl ?_
  refine Rn.icmp_geN dX10_luckOf_6 24 (fun h9 => by exfalso; omega) (fun _ => ?_)
  refine Rn.iload_n dX10_luckOf_9 rfl rfl ?_
  refine Rn.aload_n dX10_luckOf_10 rfl rfl ?_
  refine Rn.iload_n dX10_luckOf_11 rfl rfl ?_
  refine Rn.iload_n dX10_luckOf_12 rfl rfl ?_
  refine Rn.callVp (As := [_, _]) dX10_luckOf_13 mv_X10_65 (by first | rfl | exact gC0 (by assumption) | exact gL0 (by assumption)) rfl rfl rfl (Nat.le_of_ble_eq_true rfl) (ct_of G _ _ _ _ (by omega)) ?_
  refine Rn.iadd dX10_luckOf_16 ?_
  refine Rn.istore_n dX10_luckOf_17 rfl (by decide) ?_
  refine Rn.iincN dX10_luckOf_18 rfl (by decide) ?_
  refine Rn.goto 4 dX10_luckOf_21 (by decide) ?_
  refine Rn.iload_n dX10_luckOf_4 rfl rfl ?_
  refine Rn.iconst (v := (nI 4)) dX10_luckOf_5 rfl ?_
  refine Rn.icmp_geN dX10_luckOf_6 24 (fun h9 => by exfalso; omega) (fun _ => ?_)
  refine Rn.iload_n dX10_luckOf_9 rfl rfl ?_
  refine Rn.aload_n dX10_luckOf_10 rfl rfl ?_
  refine Rn.iload_n dX10_luckOf_11 rfl rfl ?_
  refine Rn.iload_n dX10_luckOf_12 rfl rfl ?_
  refine Rn.callVp (As := [_, _]) dX10_luckOf_13 mv_X10_65 (by first | rfl | exact gC0 (by assumption) | exact gL0 (by assumption)) rfl rfl rfl (Nat.le_of_ble_eq_true rfl) (ct_of G _ _ _ _ (by omega)) ?_
  refine Rn.iadd dX10_luckOf_16 ?_
  refine Rn.istore_n dX10_luckOf_17 rfl (by decide) ?_
  refine Rn.iincN dX10_luckOf_18 rfl (by decide) ?_
  refine Rn.goto 4 dX10_luckOf_21 (by decide) ?_
  refine Rn.iload_n dX10_luckOf_4 rfl rfl ?_
  refine Rn.iconst (v := (nI 4)) dX10_luckOf_5 rfl ?_
  refine Rn.icmp_geN dX10_luckOf_6 24 (fun _ => ?_) (fun h9 => by exfalso; omega)
  refine Rn.iload_n dX10_luckOf_24 rfl rfl ?_
  exact Rn.iret dX10_luckOf_25 rfl (⟨by rw [show nI 0 = 0 from rfl, Int32.zero_add], rfl⟩)
end RefA
