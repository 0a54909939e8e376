theorem dX10_bringsTo_46 : decode cX10_bringsTo 46 = .ok (.iload 4, 2) := by decide +kernel
theorem dX10_bringsTo_48 : decode cX10_bringsTo 48 = .ok (.iload_n 2, 1) := by decide +kernel
theorem dX10_bringsTo_49 : decode cX10_bringsTo 49 = .ok (.if_icmp .ge 31, 3) := by decide +kernel
theorem dX10_bringsTo_80 : decode cX10_bringsTo 80 = .ok (.aload_n 0, 1) := by decide +kernel
theorem dX10_bringsTo_81 : decode cX10_bringsTo 81 = .ok (.invokevirtual 359, 3) := by decide +kernel
theorem dX10_bringsTo_84 : decode cX10_bringsTo 84 = .ok (.iload_n 3, 1) := by decide +kernel
theorem dX10_bringsTo_85 : decode cX10_bringsTo 85 = .ok (.ireturn, 1) := by decide +kernel
theorem dX10_bringsTo_52 : decode cX10_bringsTo 52 = .ok (.aload_n 0, 1) := by decide +kernel
theorem dX10_bringsTo_53 : decode cX10_bringsTo 53 = .ok (.aload_n 0, 1) := by decide +kernel
theorem dX10_bringsTo_54 : decode cX10_bringsTo 54 = .ok (.getfield 356, 3) := by decide +kernel
theorem dX10_bringsTo_57 : decode cX10_bringsTo 57 = .ok (.aload_n 0, 1) := by decide +kernel
theorem dX10_bringsTo_58 : decode cX10_bringsTo 58 = .ok (.aload_n 0, 1) := by decide +kernel
theorem dX10_bringsTo_59 : decode cX10_bringsTo 59 = .ok (.getfield 45, 3) := by decide +kernel
theorem dX10_bringsTo_62 : decode cX10_bringsTo 62 = .ok (.iload 4, 2) := by decide +kernel
theorem dX10_bringsTo_64 : decode cX10_bringsTo 64 = .ok (.iaload, 1) := by decide +kernel
theorem dX10_bringsTo_65 : decode cX10_bringsTo 65 = .ok (.invokevirtual 281, 3) := by decide +kernel
theorem dX10_bringsTo_68 : decode cX10_bringsTo 68 = .ok (.invokestatic 266, 3) := by decide +kernel
theorem dX10_bringsTo_71 : decode cX10_bringsTo 71 = .ok (.putfield 356, 3) := by decide +kernel
theorem dX10_bringsTo_74 : decode cX10_bringsTo 74 = .ok (.iinc 4 1, 3) := by decide +kernel
theorem dX10_bringsTo_77 : decode cX10_bringsTo 77 = .ok (.goto (-31), 3) := by decide +kernel
theorem dX10_bringsTo_9 : decode cX10_bringsTo 9 = .ok (.iload 4, 2) := by decide +kernel
theorem dX10_bringsTo_11 : decode cX10_bringsTo 11 = .ok (.iload_n 2, 1) := by decide +kernel
theorem dX10_bringsTo_12 : decode cX10_bringsTo 12 = .ok (.if_icmp .ge 24, 3) := by decide +kernel
theorem dX10_bringsTo_36 : decode cX10_bringsTo 36 = .ok (.aload_n 0, 1) := by decide +kernel
theorem dX10_bringsTo_37 : decode cX10_bringsTo 37 = .ok (.ldc_w 355, 3) := by decide +kernel
theorem dX10_bringsTo_40 : decode cX10_bringsTo 40 = .ok (.putfield 356, 3) := by decide +kernel
theorem dX10_bringsTo_43 : decode cX10_bringsTo 43 = .ok (.iconst 0, 1) := by decide +kernel
theorem dX10_bringsTo_44 : decode cX10_bringsTo 44 = .ok (.istore 4, 2) := by decide +kernel
theorem dX10_bringsTo_15 : decode cX10_bringsTo 15 = .ok (.iload_n 3, 1) := by decide +kernel
theorem dX10_bringsTo_16 : decode cX10_bringsTo 16 = .ok (.aload_n 0, 1) := by decide +kernel
theorem dX10_bringsTo_17 : decode cX10_bringsTo 17 = .ok (.aload_n 0, 1) := by decide +kernel
theorem dX10_bringsTo_18 : decode cX10_bringsTo 18 = .ok (.getfield 45, 3) := by decide +kernel
theorem dX10_bringsTo_21 : decode cX10_bringsTo 21 = .ok (.iload 4, 2) := by decide +kernel
theorem dX10_bringsTo_23 : decode cX10_bringsTo 23 = .ok (.iaload, 1) := by decide +kernel
theorem dX10_bringsTo_24 : decode cX10_bringsTo 24 = .ok (.iload_n 1, 1) := by decide +kernel
theorem dX10_bringsTo_25 : decode cX10_bringsTo 25 = .ok (.invokevirtual 320, 3) := by decide +kernel
theorem dX10_bringsTo_28 : decode cX10_bringsTo 28 = .ok (.iadd, 1) := by decide +kernel
theorem dX10_bringsTo_29 : decode cX10_bringsTo 29 = .ok (.istore_n 3, 1) := by decide +kernel
theorem dX10_bringsTo_30 : decode cX10_bringsTo 30 = .ok (.iinc 4 1, 3) := by decide +kernel
theorem dX10_bringsTo_33 : decode cX10_bringsTo 33 = .ok (.goto (-24), 3) := by decide +kernel
theorem dX10_bringsTo_0 : decode cX10_bringsTo 0 = .ok (.aload_n 0, 1) := by decide +kernel
theorem dX10_bringsTo_1 : decode cX10_bringsTo 1 = .ok (.invokevirtual 352, 3) := by decide +kernel
theorem dX10_bringsTo_4 : decode cX10_bringsTo 4 = .ok (.iconst 0, 1) := by decide +kernel
theorem dX10_bringsTo_5 : decode cX10_bringsTo 5 = .ok (.istore_n 3, 1) := by decide +kernel
theorem dX10_bringsTo_6 : decode cX10_bringsTo 6 = .ok (.iconst 0, 1) := by decide +kernel
theorem dX10_bringsTo_7 : decode cX10_bringsTo 7 = .ok (.istore 4, 2) := by decide +kernel
/-! trying and taking back: bringsTo; the contracts by hand together; what is remembered -/
/-- behind it all is as it was but for rows that nothing hangs on -/
def BK (I J : Hi) : Prop := BX J ∧ XM J ∧ ∀ c j, j < 5000 → c ≠ 98 → c ≠ 102 → c ≠ 103 → ¬ (c = 94 ∧ (j = 0 ∨ j = 21)) → J c j = I c j
/-- in the midst of it: what was is kept in the row 98 -/
def MK (I K : Hi) : Prop := BX K ∧ XM K ∧ (∀ j, j < 377 → K 98 j = I 95 j) ∧ ∀ c j, j < 5000 → c ≠ 98 → c ≠ 102 → c ≠ 103 → ¬ (c = 95 ∧ j < 377) → ¬ (c = 94 ∧ (j = 0 ∨ j = 21)) → K c j = I c j
def mkS (S : List (Nat × Nat × Nat)) : Bool := S.all (fun q => decide (q.1 = 102) || (decide (q.1 = 103) || (decide (q.1 = 95) && Nat.blt q.2.2 377)))
theorem mkS_ok {S : List (Nat × Nat × Nat)} (h : mkS S = true) {c j : Nat} (h1 : c ≠ 102) (h2 : c ≠ 103) (h3 : ¬ (c = 95 ∧ j < 377)) : S.any (fun q => decide (q.1 = c) && (Nat.ble q.2.1 j && Nat.ble j q.2.2)) = false := by
  refine List.any_eq_false.mpr (fun q hq => ?_)
  have h4 := List.all_eq_true.mp h q hq
  simp only [Bool.or_eq_true, Bool.and_eq_true, decide_eq_true_eq, Nat.blt_eq] at h4
  simp only [Bool.and_eq_true, decide_eq_true_eq, Nat.ble_eq]
  omega
theorem MK.fs {I K L : Hi} {S : List (Nat × Nat × Nat)} (h : MK I K) (hS : mkS S = true) (hB : BX L) (hX : XM L) (hF : Fs S K L) : MK I L :=
  ⟨hB, hX, fun j hj => by rw [hF 98 j (by omega) (mkS_ok hS (by decide) (by decide) (by omega))]; exact h.2.2.1 j hj, fun c j hj a1 a2 a3 a4 a5 => by rw [hF c j hj (mkS_ok hS a2 a3 a4)]; exact h.2.2.2 c j hj a1 a2 a3 a4 a5⟩
theorem MK.keeps {I K : Hi} (hB : BX K) (hX : XM K) (h : ∀ c j, j < 5000 → c ≠ 98 → c ≠ 102 → c ≠ 103 → ¬ (c = 94 ∧ (j = 0 ∨ j = 21)) → K c j = I c j) : MK I (zset K 98 (cp (K 95) (K 98) 377)) := by
  refine ⟨BX.set hB (fun j => BX.copy hB (by decide) (by decide) (by decide) (by decide) j), hX.ne (by decide) (by decide) _, fun j hj => ?_, fun c j hj a1 a2 a3 a4 a5 => by rw [zset_ne _ _ a1]; exact h c j hj a1 a2 a3 a5⟩
  rw [zset_at]
  simp only [cp]
  rw [if_pos hj]
  exact h 95 j (by omega) (by decide) (by decide) (by decide) (by omega)
theorem MK.back {I K : Hi} (h : MK I K) : BK I (zset K 95 (cp (K 98) (K 95) 377)) := by
  obtain ⟨h1, h2, h3, h4⟩ := h
  refine ⟨BX.set h1 (fun j => BX.copy h1 (by decide) (by decide) (by decide) (by decide) j), ⟨?_, by rw [zset_ne _ _ (by decide)]; exact h2.2⟩, fun c j hj a1 a2 a3 a4 => ?_⟩
  · rw [zset_at]
    exact h2.1.of (fun j b1 b2 => by simp only [cp]; rw [if_neg (by omega)])
  · by_cases e : c = 95
    · subst e
      rw [zset_at]
      simp only [cp]
      by_cases q : j < 377
      · rw [if_pos q]; exact h3 j q
      · rw [if_neg q]; exact h4 95 j hj a1 a2 a3 (by omega) a4
    · rw [zset_ne _ _ e]
      exact h4 c j hj a1 a2 a3 (fun z => e z.1) a4
/-- and once more from there -/
theorem MK.again {I K : Hi} (h : MK I K) : MK I (zset K 95 (cp (K 98) (K 95) 377)) := by
  obtain ⟨b1, b2, b3⟩ := h.back
  exact ⟨b1, b2, fun j hj => by rw [zset_ne _ _ (by decide)]; exact h.2.2.1 j hj, fun c j hj a1 a2 a3 a4 a5 => b3 c j hj a1 a2 a3 a5⟩
theorem MK.up {I K : Hi} {j : Nat} {x : Int32} (h : MK I K) (hj : 3 < j ∧ j < 377) (hx : inIv (wbx j) x) : MK I (zup K 95 j x) := by
  obtain ⟨h1, h2, h3, h4⟩ := h
  refine ⟨BX.up h1 (by rw [hxB_w (by decide) (by decide), if_pos hj.2]; exact hx), ⟨?_, by rw [zup_ne _ _ (by decide)]; exact h2.2⟩, fun i hi => by rw [zup_ne _ _ (by decide)]; exact h3 i hi, fun c i hi a1 a2 a3 a4 a5 => ?_⟩
  · rw [zup_at]
    exact h2.1.of (fun i b1 b2 => by rw [upd_ne _ _ (by omega)])
  · by_cases e : c = 95
    · subst e
      rw [zup_at, upd_ne _ _ (fun z => a4 ⟨rfl, by omega⟩)]
      exact h4 95 i hi a1 a2 a3 a4 a5
    · rw [zup_ne _ _ e]
      exact h4 c i hi a1 a2 a3 a4 a5
theorem MK.up94 {I K : Hi} {x : Int32} (h : MK I K) : MK I (zup K 94 21 x) := by
  obtain ⟨h1, h2, h3, h4⟩ := h
  refine ⟨BX.up (a := 94) (j := 21) h1 (inIv_F _), h2.up (by decide), fun i hi => by rw [zup_ne _ _ (by decide)]; exact h3 i hi, fun c i hi a1 a2 a3 a4 a5 => ?_⟩
  by_cases e : c = 94
  · subst e
    rw [zup_at, upd_ne _ _ (fun z => a5 ⟨rfl, Or.inr z⟩)]
    exact h4 94 i hi a1 a2 a3 a4 a5
  · rw [zup_ne _ _ e]
    exact h4 c i hi a1 a2 a3 a4 a5
theorem BK.thr {I : Hi} (hB : BX I) (hX : XM I) (x : Int32) : BK I (zup I 94 0 x) := by
  refine ⟨BX.thr hB x, hX.up (by decide), fun c j hj a1 a2 a3 a4 => ?_⟩
  by_cases e : c = 94
  · subst e; rw [zup_at, upd_ne _ _ (fun z => a4 ⟨rfl, Or.inl z⟩)]
  · rw [zup_ne _ _ e]
theorem BK.tr {I J K : Hi} (h1 : BK I J) (h2 : BK J K) : BK I K := ⟨h2.1, h2.2.1, fun c j hj a1 a2 a3 a4 => (h2.2.2 c j hj a1 a2 a3 a4).trans (h1.2.2 c j hj a1 a2 a3 a4)⟩
def Rv0 (P : Option Value → Hi → Prop) : Rs → Hi → Prop
  | .inl v, J => P v J
  | .inr _, _ => False
section Brt
variable (G : Gx) (d : Nat)
theorem sw_weds {I K : Hi} (hK : MK I K) (w t : Nat) (hw : w < 8) (ht : t < 8) : Ct G GAM mX10_weds (d + 7) 0 [.ref 94, .int (nI w), .int (nI t)] K (Rv0 (fun v J => (∃ x, v = some (.int x)) ∧ MK I J)) := by
  have hc : Ct G GAM mX10_weds (7 + d) 0 [.ref 94, .int (nI w), .int (nI t)] K _ := (man_weds (G := G) okXM (fun _ h => h)) d K [.ref 94, .int (nI w), .int (nI t)] hK.1 hK.2.1 ⟨rfl, iv_nI (n := 7) (by omega) (by decide), iv_nI (n := 7) (by omega) (by decide), trivial⟩ (fun e he => nomatch he)
  rw [Nat.add_comm] at hc
  refine hc.weak (fun o J q => ?_)
  obtain ⟨a1, a2, a3, p, hp, a4, -⟩ := q
  cases List.mem_singleton.mp hp
  cases o with
  | inr E => exact a4.elim
  | inl v =>
    cases v with
    | none => exact a4.elim
    | some w =>
      cases w with
      | int x => exact ⟨⟨x, rfl⟩, hK.fs (by decide) a1 a2 a3⟩
      | _ => exact a4.elim
theorem lp_brt2 (I : Hi) (t n : Nat) (hn : n ≤ 5) (x3 : Int32) : ∀ (m i : Nat) (K : Hi), i + m = n → MK I K → Rn G GAM mX10_bringsTo (kM G GAM (Rv0 (fun v J => (∃ r, v = some (.int r)) ∧ BK I J))) (d + 8) 0 46 [some (.ref 94), some (.int (nI t)), some (.int (nI n)), some (.int x3), some (.int (nI i))] [] K := by
  intro m
  induction m with
  | zero =>
    intro i K hi hK
    refine Rn.iload dX10_bringsTo_46 rfl ?_
    refine Rn.iload_n dX10_bringsTo_48 rfl rfl ?_
    refine Rn.icmp_geN dX10_bringsTo_49 80 (fun _ => ?_) (fun h9 => by exfalso; omega)
    refine Rn.aload_n dX10_bringsTo_80 rfl rfl ?_
    refine Rn.callVp (As := []) dX10_bringsTo_81 mv_X10_359 (by first | rfl | exact gC0 (by assumption) | exact gL0 (by assumption)) rfl rfl rfl (Nat.le_of_ble_eq_true rfl) (ct_bringsBack G _ _) ?_
    refine Rn.iload_n dX10_bringsTo_84 rfl rfl ?_
    exact Rn.iret dX10_bringsTo_85 rfl (⟨⟨_, rfl⟩, hK.back⟩)
  | succ m ih =>
    intro i K hi hK
    obtain ⟨w, hw, ew⟩ := nI_iv (n := 7) (show inIv (0, 7) (K 104 i) from hK.1 104 i)
    refine Rn.iload dX10_bringsTo_46 rfl ?_
    refine Rn.iload_n dX10_bringsTo_48 rfl rfl ?_
    refine Rn.icmp_geN dX10_bringsTo_49 80 (fun h9 => by exfalso; omega) (fun _ => ?_)
    refine Rn.aload_n dX10_bringsTo_52 rfl rfl ?_
    refine Rn.aload_n dX10_bringsTo_53 rfl rfl ?_
    refine Rn.getI dX10_bringsTo_54 fd_X10_356_9 (by first | rfl | exact gC0 (by assumption) | exact gL0 (by assumption)) rfl ?_
    refine Rn.aload_n dX10_bringsTo_57 rfl rfl ?_
    refine Rn.aload_n dX10_bringsTo_58 rfl rfl ?_
    refine Rn.getR dX10_bringsTo_59 fd_X10_45_9 (by first | rfl | exact gC0 (by assumption) | exact gL0 (by assumption)) rfl ?_
    refine Rn.iload dX10_bringsTo_62 rfl ?_
    refine Rn.ialdN dX10_bringsTo_64 (by first | rfl | exact gC1 (by assumption) | exact gC2 (by assumption) | exact gC3 (by assumption) | exact gL1 (by assumption) | exact gL2 (by assumption) | exact gL3 (by assumption) | exact gL4 (by assumption) | exact gL5 (by assumption) | exact gL6 (by assumption)) ?_
    refine Rn.topI (nI w) (by exact ew) ?_
    refine Rn.callVp (As := [_]) dX10_bringsTo_65 mv_X10_281 (by first | rfl | exact gC0 (by assumption) | exact gL0 (by assumption)) rfl rfl rfl (Nat.le_of_ble_eq_true rfl) (ct_luckOf G _ _ w (by omega)) ?_
    refine Rn.mmin dX10_bringsTo_68 ms_X10_266 (Nat.le_of_ble_eq_true rfl) ?_
    refine Rn.putI dX10_bringsTo_71 fp_X10_356_9 (by first | rfl | exact gC0 (by assumption) | exact gL0 (by assumption)) rfl ?_
    refine Rn.iincN dX10_bringsTo_74 rfl (by decide) ?_
    refine Rn.goto 46 dX10_bringsTo_77 (by decide) ?_
    exact ih (i + 1) _ (by omega) hK.up94
theorem lp_brt1 (I : Hi) (t n : Nat) (ht : t < 8) (hn : n ≤ 5) : ∀ (m i : Nat) (x3 : Int32) (K : Hi), i + m = n → MK I K → Rn G GAM mX10_bringsTo (kM G GAM (Rv0 (fun v J => (∃ r, v = some (.int r)) ∧ BK I J))) (d + 8) 0 9 [some (.ref 94), some (.int (nI t)), some (.int (nI n)), some (.int x3), some (.int (nI i))] [] K := by
  intro m
  induction m with
  | zero =>
    intro i x3 K hi hK
    refine Rn.iload dX10_bringsTo_9 rfl ?_
    refine Rn.iload_n dX10_bringsTo_11 rfl rfl ?_
    refine Rn.icmp_geN dX10_bringsTo_12 36 (fun _ => ?_) (fun h9 => by exfalso; omega)
    refine Rn.aload_n dX10_bringsTo_36 rfl rfl ?_
    refine Rn.ldc_w dX10_bringsTo_37 kc_X10_355 ?_
    refine Rn.putI dX10_bringsTo_40 fp_X10_356_9 (by first | rfl | exact gC0 (by assumption) | exact gL0 (by assumption)) rfl ?_
    refine Rn.iconst (v := (nI 0)) dX10_bringsTo_43 rfl ?_
    refine Rn.istore dX10_bringsTo_44 (by decide) ?_
    exact lp_brt2 G d I t n hn x3 n 0 _ (by omega) hK.up94
  | succ m ih =>
    intro i x3 K hi hK
    obtain ⟨w, hw, ew⟩ := nI_iv (n := 7) (show inIv (0, 7) (K 104 i) from hK.1 104 i)
    refine Rn.iload dX10_bringsTo_9 rfl ?_
    refine Rn.iload_n dX10_bringsTo_11 rfl rfl ?_
    refine Rn.icmp_geN dX10_bringsTo_12 36 (fun h9 => by exfalso; omega) (fun _ => ?_)
    refine Rn.iload_n dX10_bringsTo_15 rfl rfl ?_
    refine Rn.aload_n dX10_bringsTo_16 rfl rfl ?_
    refine Rn.aload_n dX10_bringsTo_17 rfl rfl ?_
    refine Rn.getR dX10_bringsTo_18 fd_X10_45_9 (by first | rfl | exact gC0 (by assumption) | exact gL0 (by assumption)) rfl ?_
    refine Rn.iload dX10_bringsTo_21 rfl ?_
    refine Rn.ialdN dX10_bringsTo_23 (by first | rfl | exact gC1 (by assumption) | exact gC2 (by assumption) | exact gC3 (by assumption) | exact gL1 (by assumption) | exact gL2 (by assumption) | exact gL3 (by assumption) | exact gL4 (by assumption) | exact gL5 (by assumption) | exact gL6 (by assumption)) ?_
    refine Rn.topI (nI w) (by exact ew) ?_
    refine Rn.iload_n dX10_bringsTo_24 rfl rfl ?_
    refine Rn.callV (As := [_, _]) dX10_bringsTo_25 mv_X10_320 (by first | rfl | exact gC0 (by assumption) | exact gL0 (by assumption)) rfl rfl rfl (Nat.le_of_ble_eq_true rfl) (sw_weds G d hK w t (by omega) ht) (fun _ _ h => h) (fun v J h => ?_)
    obtain ⟨⟨r, rfl⟩, hK2⟩ := h
    refine Rn.iadd dX10_bringsTo_28 ?_
    refine Rn.istore_n dX10_bringsTo_29 rfl (by decide) ?_
    refine Rn.iincN dX10_bringsTo_30 rfl (by decide) ?_
    refine Rn.goto 9 dX10_bringsTo_33 (by decide) ?_
    exact ih (i + 1) _ _ (by omega) hK2
theorem bk_bringsTo (I : Hi) (hB : BX I) (hX : XM I) (t n : Nat) (ht : t < 8) (hn : n ≤ 5) : Ct G GAM mX10_bringsTo (d + 8) 0 [.ref 94, .int (nI t), .int (nI n)] I (Rv0 (fun v J => (∃ r, v = some (.int r)) ∧ BK I J)) := by
  refine Ct.mk [some (.ref 94), some (.int (nI t)), some (.int (nI n)), none, none] ?_
  refine Rn.aload_n dX10_bringsTo_0 rfl rfl ?_
  refine Rn.callVp (As := []) dX10_bringsTo_1 mv_X10_352 (by first | rfl | exact gC0 (by assumption) | exact gL0 (by assumption)) rfl rfl rfl (Nat.le_of_ble_eq_true rfl) (ct_keepsAll G _ _) ?_
  refine Rn.iconst (v := (nI 0)) dX10_bringsTo_4 rfl ?_
  refine Rn.istore_n dX10_bringsTo_5 rfl (by decide) ?_
  refine Rn.iconst (v := (nI 0)) dX10_bringsTo_6 rfl ?_
  refine Rn.istore dX10_bringsTo_7 (by decide) ?_
  exact lp_brt1 G d I t n ht hn n 0 _ _ (by omega) (MK.keeps hB hX (fun _ _ _ _ _ _ _ => rfl))
end Brt
theorem man_bringsTo {G : Gx} {X : Hi → Prop} (oX : okX X) (xm : ∀ I, X I → XM I) : CtOK G (hxM []) X mtL ct_m4 := by
  intro k I vs hB hX hA hF
  obtain ⟨t0, rfl, hA1⟩ := argM_r hA
  obtain ⟨t, t1, rfl, ht, hA2⟩ := argM_i hA1
  obtain ⟨n, t2, rfl, hn, hA3⟩ := argM_i hA2
  cases argM_n hA3
  obtain ⟨t, ht, rfl⟩ := nI_iv (n := 7) ht
  obtain ⟨n, hn9, rfl⟩ := nI_iv (n := 5) hn
  have hc := bk_bringsTo G k I hB (xm _ hX) t n (by omega) hn9
  rw [Nat.add_comm] at hc
  refine hc.weak (fun o J h => ?_)
  cases o with
  | inr E => exact h.elim
  | inl v =>
    obtain ⟨⟨r, rfl⟩, b1, b2, b3⟩ := h
    refine ⟨b1, oX I J (fun c j hd => b3 c j (by have := hxD_iff.mp hd; omega) (by have := hxD_iff.mp hd; omega) (by have := hxD_iff.mp hd; omega) (by have := hxD_iff.mp hd; omega) (by have := hxD_iff.mp hd; omega)) hX, fun c j hj hc => ?_, _, List.mem_singleton.mpr rfl, inIv_F _, fun e he => nomatch he⟩
    have hs := List.any_eq_false.mp hc
    have key : ∀ q : Nat × Nat × Nat, q ∈ ([(94, 0, 0), (94, 21, 21), (95, 0, 376), (98, 0, 4999), (102, 0, 4999), (103, 0, 4999)] : List (Nat × Nat × Nat)) → ¬ (q.1 = c ∧ q.2.1 ≤ j ∧ j ≤ q.2.2) := fun q hq z => by
      have := hs q hq
      simp only [Bool.and_eq_true, decide_eq_true_eq, Nat.ble_eq] at this
      exact this z
    have k0 : ¬ (94 = c ∧ 0 ≤ j ∧ j ≤ 0) := key (94, 0, 0) (by decide)
    have k1 : ¬ (94 = c ∧ 21 ≤ j ∧ j ≤ 21) := key (94, 21, 21) (by decide)
    have k2 : ¬ (102 = c ∧ 0 ≤ j ∧ j ≤ 4999) := key (102, 0, 4999) (by decide)
    have k3 : ¬ (103 = c ∧ 0 ≤ j ∧ j ≤ 4999) := key (103, 0, 4999) (by decide)
    have k4 : ¬ (98 = c ∧ 0 ≤ j ∧ j ≤ 4999) := key (98, 0, 4999) (by decide)
    exact b3 c j hj (by omega) (by omega) (by omega) (by omega)
theorem manOK {G : Gx} : ManOK G XM := ⟨man_sumOf okXM (fun _ h => h), man_weds okXM (fun _ h => h), man_remembers (fun I r _ _ hX => (XM.up hX (by decide)).ne (by decide) (by decide) _), man_keepsAll okXM, man_bringsTo okXM (fun _ h => h)⟩
/-! what is remembered, on both sides -/
/-- a coast has as many women, things and texts as now, and the same blue ones -/
def eqC (I : Hi) (a : Nat) : Prop := (∀ i, i < 3 → I a i = I 3 i) ∧ ∀ i, i < 8 → I (a + 2) (9 * i + 8) = I 5 (9 * i + 8)
/-- so have all that are remembered -/
def MC (I : Hi) : Prop := ∃ n s, n < 12 ∧ s ≤ 12 ∧ I 44 2 = nI n ∧ I 44 1 = nI s ∧ ∀ k, k < s → eqC I (46 + 4 * ((n + 12 - k) % 12))
theorem eqC.of {I J : Hi} {a : Nat} (h : eqC I a) (h1 : J a = I a) (h2 : J (a + 2) = I (a + 2)) (h3 : ∀ i, i < 3 → J 3 i = I 3 i) (h4 : ∀ i, i < 8 → J 5 (9 * i + 8) = I 5 (9 * i + 8)) : eqC J a := ⟨fun i hi => by rw [h1, h3 i hi]; exact h.1 i hi, fun i hi => by rw [h2, h4 i hi]; exact h.2 i hi⟩
def D95 (j : Nat) : Prop := j < 3 ∨ 65 ≤ j ∧ j < 137 ∧ (j - 65) % 9 = 8
def MR (I : Hi) : Prop := ∃ r, r ≤ 12 ∧ I 94 7 = nI r ∧ ∀ k, k < r → ∀ j, D95 j → I 99 (377 * k + j) = I 95 j
theorem MR.rem {I : Hi} (h : MR I) {r : Nat} (hr : r ≤ 12) (h7 : I 94 7 = nI r) : MR (zset (zup I 94 7 (nI (remR r))) 99 (remA (I 99) (I 95) r)) := by
  obtain ⟨r', hr', h7', hk⟩ := h
  obtain rfl : r = r' := (nI_eq (by omega) (by omega)).mp (h7.symm.trans h7')
  refine ⟨remR r, by unfold remR; split <;> omega, by rw [zset_ne _ _ (by decide), zup_at, upd_at], fun k hk2 j hj => ?_⟩
  have hj2 : j < 377 := by unfold D95 at hj; omega
  rw [zset_at, zset_ne _ _ (by decide), zup_ne _ _ (by decide)]
  unfold remA
  unfold remR at hk2
  by_cases e : r = 12
  · rw [if_pos e] at hk2 ⊢
    simp only [puA, shA]
    by_cases z : k = 11
    · subst z
      rw [if_pos (by omega)]
      exact congrArg (I 95) (by omega)
    · rw [if_neg (by omega), if_pos (by omega), show 377 * k + j + 377 = 377 * (k + 1) + j by omega]
      exact hk (k + 1) (by omega) j hj
  · rw [if_neg e] at hk2 ⊢
    simp only [puA]
    by_cases z : k = r
    · subst z
      rw [if_pos (by omega)]
      exact congrArg (I 95) (by omega)
    · rw [if_neg (by omega)]
      exact hk k (by omega) j hj
/-- what a method of either side keeps, from I0 on -/
def X6 (I0 K : Hi) : Prop := XM K ∧ MC K ∧ MR K ∧ (∀ j, D95 j → K 95 j = I0 95 j) ∧ (∀ j, j < 3 → K 3 j = I0 3 j) ∧ ∀ i, i < 8 → K 5 (9 * i + 8) = I0 5 (9 * i + 8)
theorem okX6 (I0 : Hi) : okX (X6 I0) := by
  intro I J h hx
  obtain ⟨h1, ⟨n, s, hn, hs, h2, h3, h4⟩, ⟨r, hr, h5, h6⟩, h7, h8, h9⟩ := hx
  have g3 : ∀ j, j < 3 → J 3 j = I 3 j := fun j hj => h 3 j (hxD_iff.mpr (by omega))
  have g5 : ∀ i, i < 8 → J 5 (9 * i + 8) = I 5 (9 * i + 8) := fun i hi => h 5 _ (hxD_iff.mpr (by omega))
  have g95 : ∀ j, D95 j → J 95 j = I 95 j := fun j hj => h 95 j (hxD_iff.mpr (by unfold D95 at hj; omega))
  refine ⟨okXM I J h h1, ⟨n, s, hn, hs, by rw [h 44 2 (hxD_iff.mpr (by omega))]; exact h2, by rw [h 44 1 (hxD_iff.mpr (by omega))]; exact h3, fun k hk => ?_⟩, ⟨r, hr, by rw [h 94 7 (hxD_iff.mpr (by omega))]; exact h5, fun k hk j hj => ?_⟩, fun j hj => by rw [g95 j hj]; exact h7 j hj, fun j hj => by rw [g3 j hj]; exact h8 j hj, fun i hi => by rw [g5 i hi]; exact h9 i hi⟩
  · have hq := h4 k hk
    have lt : (n + 12 - k) % 12 < 12 := by omega
    generalize (n + 12 - k) % 12 = y at hq lt
    exact ⟨fun i hi => by rw [h _ i (hxD_iff.mpr (by omega)), g3 i hi]; exact hq.1 i hi, fun i hi => by rw [h _ _ (hxD_iff.mpr (by omega)), g5 i hi]; exact hq.2 i hi⟩
  · have hj3 : j < 377 := by unfold D95 at hj; omega
    have hm : (377 * k + j) % 377 = j := by rw [Nat.mul_add_mod]; exact Nat.mod_eq_of_lt hj3
    rw [h 99 _ (hxD_iff.mpr (Or.inr (Or.inr (Or.inr (Or.inr (Or.inr (Or.inr (Or.inr ⟨rfl, by omega, by rw [hm]; exact hj⟩)))))))), g95 j hj]
    exact h6 k hk j hj
theorem X6.rem {I0 I : Hi} (hX : X6 I0 I) {r : Nat} (hr : r ≤ 12) (h7 : I 94 7 = nI r) : X6 I0 (zset (zup I 94 7 (nI (remR r))) 99 (remA (I 99) (I 95) r)) := by
  obtain ⟨h1, ⟨n, s, hn, hs, h2, h3, h4⟩, h5, h6, h8, h9⟩ := hX
  have f : ∀ a, a ≠ 94 → a ≠ 99 → (zset (zup I 94 7 (nI (remR r))) 99 (remA (I 99) (I 95) r)) a = I a := fun a b1 b2 => by rw [zset_ne _ _ b2, zup_ne _ _ b1]
  refine ⟨(XM.up h1 (by decide)).ne (by decide) (by decide) _, ⟨n, s, hn, hs, by rw [f 44 (by decide) (by decide)]; exact h2, by rw [f 44 (by decide) (by decide)]; exact h3, fun k hk => ?_⟩, h5.rem hr h7, fun j hj => by rw [f 95 (by decide) (by decide)]; exact h6 j hj, fun j hj => by rw [f 3 (by decide) (by decide)]; exact h8 j hj, fun i hi => by rw [f 5 (by decide) (by decide)]; exact h9 i hi⟩
  have hq := h4 k hk
  have lt : (n + 12 - k) % 12 < 12 := by omega
  generalize (n + 12 - k) % 12 = y at hq lt
  exact hq.of (f _ (by omega) (by omega)) (f _ (by omega) (by omega)) (fun i _ => by rw [f 3 (by decide) (by decide)]) (fun i _ => by rw [f 5 (by decide) (by decide)])
theorem manOK6 {G : Gx} (I0 : Hi) : ManOK G (X6 I0) := ⟨man_sumOf (okX6 I0) (fun _ h => h.1), man_weds (okX6 I0) (fun _ h => h.1), man_remembers (fun I r hr h7 hX => hX.rem hr h7), man_keepsAll (okX6 I0), man_bringsTo (okX6 I0) (fun _ h => h.1)⟩
