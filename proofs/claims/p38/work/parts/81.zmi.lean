theorem dX10_runs_0 : decode cX10_runs 0 = .ok (.aload_n 0, 1) := by decide +kernel
theorem dX10_runs_1 : decode cX10_runs 1 = .ok (.iconst 0, 1) := by decide +kernel
theorem dX10_runs_2 : decode cX10_runs 2 = .ok (.putfield 3, 3) := by decide +kernel
theorem dX10_runs_5 : decode cX10_runs 5 = .ok (.aload_n 0, 1) := by decide +kernel
theorem dX10_runs_6 : decode cX10_runs 6 = .ok (.aload_n 0, 1) := by decide +kernel
theorem dX10_runs_7 : decode cX10_runs 7 = .ok (.iload_n 1, 1) := by decide +kernel
theorem dX10_runs_8 : decode cX10_runs 8 = .ok (.invokevirtual 284, 3) := by decide +kernel
theorem dX10_runs_11 : decode cX10_runs 11 = .ok (.iconst 1, 1) := by decide +kernel
theorem dX10_runs_12 : decode cX10_runs 12 = .ok (.invokevirtual 241, 3) := by decide +kernel
theorem dX10_runs_15 : decode cX10_runs 15 = .ok (.ifCond .ne 26, 3) := by decide +kernel
theorem dX10_runs_18 : decode cX10_runs 18 = .ok (.aload_n 0, 1) := by decide +kernel
theorem dX10_runs_19 : decode cX10_runs 19 = .ok (.iload_n 2, 1) := by decide +kernel
theorem dX10_runs_20 : decode cX10_runs 20 = .ok (.iconst 0, 1) := by decide +kernel
theorem dX10_runs_21 : decode cX10_runs 21 = .ok (.bipush 60, 2) := by decide +kernel
theorem dX10_runs_23 : decode cX10_runs 23 = .ok (.invokestatic 78, 3) := by decide +kernel
theorem dX10_runs_26 : decode cX10_runs 26 = .ok (.ifCond .ne 7, 3) := by decide +kernel
theorem dX10_runs_33 : decode cX10_runs 33 = .ok (.iconst 0, 1) := by decide +kernel
theorem dX10_runs_34 : decode cX10_runs 34 = .ok (.iconst 2, 1) := by decide +kernel
theorem dX10_runs_35 : decode cX10_runs 35 = .ok (.invokevirtual 241, 3) := by decide +kernel
theorem dX10_runs_38 : decode cX10_runs 38 = .ok (.ifCond .eq 5, 3) := by decide +kernel
theorem dX10_runs_43 : decode cX10_runs 43 = .ok (.aload_n 0, 1) := by decide +kernel
theorem dX10_runs_44 : decode cX10_runs 44 = .ok (.invokevirtual 352, 3) := by decide +kernel
theorem dX10_runs_47 : decode cX10_runs 47 = .ok (.aload_n 0, 1) := by decide +kernel
theorem dX10_runs_48 : decode cX10_runs 48 = .ok (.iload_n 1, 1) := by decide +kernel
theorem dX10_runs_49 : decode cX10_runs 49 = .ok (.iconst 0, 1) := by decide +kernel
theorem dX10_runs_50 : decode cX10_runs 50 = .ok (.iload_n 2, 1) := by decide +kernel
theorem dX10_runs_51 : decode cX10_runs 51 = .ok (.invokevirtual 375, 3) := by decide +kernel
theorem dX10_runs_54 : decode cX10_runs 54 = .ok (.aload_n 0, 1) := by decide +kernel
theorem dX10_runs_55 : decode cX10_runs 55 = .ok (.iload_n 1, 1) := by decide +kernel
theorem dX10_runs_56 : decode cX10_runs 56 = .ok (.invokevirtual 272, 3) := by decide +kernel
theorem dX10_runs_59 : decode cX10_runs 59 = .ok (.istore_n 3, 1) := by decide +kernel
theorem dX10_runs_60 : decode cX10_runs 60 = .ok (.aload_n 0, 1) := by decide +kernel
theorem dX10_runs_61 : decode cX10_runs 61 = .ok (.invokevirtual 359, 3) := by decide +kernel
theorem dX10_runs_64 : decode cX10_runs 64 = .ok (.iload_n 3, 1) := by decide +kernel
theorem dX10_runs_65 : decode cX10_runs 65 = .ok (.ireturn, 1) := by decide +kernel
theorem dX10_runs_29 : decode cX10_runs 29 = .ok (.iconst 1, 1) := by decide +kernel
theorem dX10_runs_30 : decode cX10_runs 30 = .ok (.goto 4, 3) := by decide +kernel
theorem dX10_runs_41 : decode cX10_runs 41 = .ok (.iconst 0, 1) := by decide +kernel
theorem dX10_runs_42 : decode cX10_runs 42 = .ok (.ireturn, 1) := by decide +kernel
/-! the reference's methods that try something and take it back: all is as it was -/
theorem BK.thr2 {I : Hi} (hB : BX I) (hX : XM I) (x y : Int32) : BK I (zup (zup I 94 0 x) 94 0 y) := by
  rw [zup2]
  exact BK.thr hB hX y
theorem th_of {x n : Int32} (hn : inIv (0, 8) n) (h : nI 0 ≤ x ∧ x ≤ n - nI 1) : ∃ t, t < 8 ∧ x = nI t := by
  obtain ⟨k, hk, rfl⟩ := nI_iv (n := 8) hn
  have a := Int32.le_iff_toInt_le.mp h.1
  have b := Int32.le_iff_toInt_le.mp h.2
  rw [wm1 hk] at b
  rw [show (nI 0).toInt = 0 from rfl] at a
  obtain ⟨t, ht, rfl⟩ := nI_iv (n := 7) (x := x) ⟨a, by show _ ≤ (7 : Int); omega⟩
  exact ⟨t, by omega, rfl⟩
section Bck
variable (G : Gx) (d : Nat)
theorem sb_turns0 {I K : Hi} (hK : MK I K) (t : Nat) (y : Int32) (ht : t < 8) (hy : inIv (0, 60) y) : Ct G GAM mX10_turns (d + 8) 0 [.ref 94, .int (nI t), .int (nI 0), .int y] K (Rv (fun v J => v = none ∧ MK I J)) := by
  have hc : Ct G GAM mX10_turns (8 + d) 0 [.ref 94, .int (nI t), .int (nI 0), .int y] K _ := (cm_229 okXM manOK) d K [.ref 94, .int (nI t), .int (nI 0), .int y] hK.1 hK.2.1 ⟨rfl, iv_nI (n := 7) (by omega) (by decide), ⟨by decide, by decide⟩, hy, trivial⟩ (fun e he => nomatch he)
  rw [Nat.add_comm] at hc
  refine hc.weak (fun o J q => ?_)
  obtain ⟨a1, a2, a3, p, hp, a4, -⟩ := q
  cases List.mem_singleton.mp hp
  cases o with
  | inr E => exact a4.elim
  | inl v =>
    cases v with
    | none => exact ⟨rfl, hK.fs (by decide) a1 a2 a3⟩
    | some w => cases w <;> exact a4.elim
theorem sb_turnsN {I K : Hi} (hK : MK I K) (t n : Nat) (ht : t < 8) (hn : n ≤ 60) : Ct G GAM mX10_turns (d + 8) 0 [.ref 94, .int (nI t), .int (nI n), .int (nI (n + 1))] K (Rv (fun v J => v = none ∧ MK I J)) := by
  have hc : Ct G GAM mX10_turns (8 + d) 0 [.ref 94, .int (nI t), .int (nI n), .int (nI (n + 1))] K _ := (cm_230 okXM manOK) d K [.ref 94, .int (nI t), .int (nI n), .int (nI (n + 1))] hK.1 hK.2.1 ⟨rfl, iv_nI (n := 7) (by omega) (by decide), iv_nI (n := 60) (by omega) (by decide), ⟨by rw [nI_toInt (by omega)]; show (1 : Int) ≤ _; omega, by rw [nI_toInt (by omega)]; show _ ≤ (61 : Int); omega⟩, trivial⟩ (fun e he => nomatch he)
  rw [Nat.add_comm] at hc
  refine hc.weak (fun o J q => ?_)
  obtain ⟨a1, a2, a3, p, hp, a4, -⟩ := q
  cases List.mem_singleton.mp hp
  cases o with
  | inr E => exact a4.elim
  | inl v =>
    cases v with
    | none => exact ⟨rfl, hK.fs (by decide) a1 a2 a3⟩
    | some w => cases w <;> exact a4.elim
theorem sb_luckIn {I K : Hi} (hK : MK I K) (t : Nat) (ht : t < 8) : Ct G GAM mX10_luckIn (d + 2) 0 [.ref 94, .int (nI t)] K (Rv (fun v J => (∃ x, v = some (.int x)) ∧ MK I J)) := by
  have hc : Ct G GAM mX10_luckIn (2 + d) 0 [.ref 94, .int (nI t)] K _ := (cm_157 okXM manOK) d K [.ref 94, .int (nI t)] hK.1 hK.2.1 ⟨rfl, iv_nI (n := 7) (by omega) (by decide), trivial⟩ (fun e he => nomatch he)
  rw [Nat.add_comm] at hc
  refine hc.weak (fun o J q => ?_)
  obtain ⟨a1, a2, a3, p, hp, a4, -⟩ := q
  cases List.mem_singleton.mp hp
  obtain ⟨x, rfl, -⟩ := resM_int a4
  exact ⟨⟨x, rfl⟩, hK.fs (by decide) a1 a2 a3⟩
theorem sb_luckOf {I K : Hi} (hK : MK I K) (t : Nat) (ht : t < 8) : Ct G GAM mX10_luckOf (d + 2) 0 [.ref 94, .int (nI t)] K (Rv (fun v J => (∃ x, v = some (.int x)) ∧ MK I J)) := by
  have hc : Ct G GAM mX10_luckOf (2 + d) 0 [.ref 94, .int (nI t)] K _ := (cm_155 okXM manOK) d K [.ref 94, .int (nI t)] hK.1 hK.2.1 ⟨rfl, iv_nI (n := 7) (by omega) (by decide), trivial⟩ (fun e he => nomatch he)
  rw [Nat.add_comm] at hc
  refine hc.weak (fun o J q => ?_)
  obtain ⟨a1, a2, a3, p, hp, a4, -⟩ := q
  cases List.mem_singleton.mp hp
  obtain ⟨x, rfl, -⟩ := resM_int a4
  exact ⟨⟨x, rfl⟩, hK.fs (by decide) a1 a2 a3⟩
theorem sb_luckOfAll {I K : Hi} (hK : MK I K) : Ct G GAM mX10_luckOfAll (d + 3) 0 [.ref 94] K (Rv (fun v J => (∃ x, v = some (.int x)) ∧ MK I J)) := by
  have hc : Ct G GAM mX10_luckOfAll (3 + d) 0 [.ref 94] K _ := (cm_227 okXM manOK) d K [.ref 94] hK.1 hK.2.1 ⟨rfl, trivial⟩ (fun e he => nomatch he)
  rw [Nat.add_comm] at hc
  refine hc.weak (fun o J q => ?_)
  obtain ⟨a1, a2, a3, p, hp, a4, -⟩ := q
  cases List.mem_singleton.mp hp
  obtain ⟨x, rfl, -⟩ := resM_int a4
  exact ⟨⟨x, rfl⟩, hK.fs (by decide) a1 a2 a3⟩
theorem sb_goesOn {I K : Hi} (hK : MK I K) (y : Int32) (hy : inIv (0, 60) y) : Ct G GAM mX10_goesOn (d + 9) 0 [.ref 94, .int y] K (Rv (fun v J => (∃ x, v = some (.int x)) ∧ MK I J)) := by
  have hc : Ct G GAM mX10_goesOn (9 + d) 0 [.ref 94, .int y] K _ := (cm_231 okXM manOK) d K [.ref 94, .int y] hK.1 hK.2.1 ⟨rfl, hy, trivial⟩ (fun e he => nomatch he)
  rw [Nat.add_comm] at hc
  refine hc.weak (fun o J q => ?_)
  obtain ⟨a1, a2, a3, p, hp, a4, -⟩ := q
  cases List.mem_singleton.mp hp
  obtain ⟨x, rfl, -⟩ := resM_int a4
  exact ⟨⟨x, rfl⟩, hK.fs (by decide) a1 a2 a3⟩
theorem sb_thingsBy {I K : Hi} (hK : MK I K) : Ct G GAM mX10_thingsBy (d + 2) 0 [.ref 94, .int (nI 7), .int (nI 1)] K (Rv (fun v J => (∃ x, v = some (.int x)) ∧ MK I J)) := by
  have hc : Ct G GAM mX10_thingsBy (2 + d) 0 [.ref 94, .int (nI 7), .int (nI 1)] K _ := (cm_211 okXM manOK) d K [.ref 94, .int (nI 7), .int (nI 1)] hK.1 hK.2.1 ⟨rfl, ⟨by decide, by decide⟩, ⟨by decide, by decide⟩, trivial⟩ (fun e he => nomatch he)
  rw [Nat.add_comm] at hc
  refine hc.weak (fun o J q => ?_)
  obtain ⟨a1, a2, a3, p, hp, a4, -⟩ := q
  cases List.mem_singleton.mp hp
  obtain ⟨x, rfl, -⟩ := resM_int a4
  exact ⟨⟨x, rfl⟩, hK.fs (by decide) a1 a2 a3⟩
theorem sb_weds {I K : Hi} (hK : MK I K) (w t : Nat) (hw : w < 8) (ht : t < 8) : Ct G GAM mX10_weds (d + 7) 0 [.ref 94, .int (nI w), .int (nI t)] K (Rv (fun v J => (∃ x, v = some (.int x)) ∧ MK I J)) := by
  have hc : Ct G GAM mX10_weds (7 + d) 0 [.ref 94, .int (nI w), .int (nI t)] K _ := (manOK (G := G)).2.1 d K [.ref 94, .int (nI w), .int (nI t)] hK.1 hK.2.1 ⟨rfl, iv_nI (n := 7) (by omega) (by decide), iv_nI (n := 7) (by omega) (by decide), trivial⟩ (fun e he => nomatch he)
  rw [Nat.add_comm] at hc
  refine hc.weak (fun o J q => ?_)
  obtain ⟨a1, a2, a3, p, hp, a4, -⟩ := q
  cases List.mem_singleton.mp hp
  obtain ⟨x, rfl, -⟩ := resM_int a4
  exact ⟨⟨x, rfl⟩, hK.fs (by decide) a1 a2 a3⟩
theorem bk_runs (I : Hi) (hB : BX I) (hX : XM I) (x y : Int32) : Ct G GAM mX10_runs (d + 9) 0 [.ref 94, .int x, .int y] I (Rv (fun v J => (∃ r, v = some (.int r)) ∧ BK I J)) := by
  have T := BK.thr hB hX (nI 0)
  refine Ct.mk [some (.ref 94), some (.int x), some (.int y), none] ?_
  by_cases h1 : nI 0 ≤ x ∧ x ≤ I 95 1 - nI 1
  · obtain ⟨t, ht, rfl⟩ := th_of (BX.w hB (p := 1) (by decide)) h1
    by_cases h2 : nI 0 ≤ y ∧ y ≤ nI 60
    · have hy : inIv (0, 60) y := ⟨Int32.le_iff_toInt_le.mp h2.1, Int32.le_iff_toInt_le.mp h2.2⟩
      refine Rn.aload_n dX10_runs_0 rfl rfl ?_
      refine Rn.iconst (v := (nI 0)) dX10_runs_1 rfl ?_
      refine Rn.putI dX10_runs_2 fp_X10_3_9 (by first | rfl | exact gC0 (by assumption) | exact gL0 (by assumption)) rfl ?_
      refine Rn.aload_n dX10_runs_5 rfl rfl ?_
      refine Rn.aload_n dX10_runs_6 rfl rfl ?_
      refine Rn.iload_n dX10_runs_7 rfl rfl ?_
      refine Rn.callVp (As := [_]) dX10_runs_8 mv_X10_284 (by first | rfl | exact gC0 (by assumption) | exact gL0 (by assumption)) rfl rfl rfl (Nat.le_of_ble_eq_true rfl) (ct_noThing G _ _ _) ?_
      refine Rn.topI (nI 0) (by exact bI_f (fun z => z h1)) ?_
      refine Rn.iconst (v := (nI 1)) dX10_runs_11 rfl ?_
      refine Rn.callVp (As := [_, _]) dX10_runs_12 mv_X10_241 (by first | rfl | exact gC0 (by assumption) | exact gL0 (by assumption)) rfl rfl rfl (Nat.le_of_ble_eq_true rfl) (ct_thI0 G _ _ _) ?_
      refine Rn.if_ne (tgt := 41) dX10_runs_15 (by decide) (fun h9 => absurd h9 (by decide)) (fun _ => ?_)
      refine Rn.aload_n dX10_runs_18 rfl rfl ?_
      refine Rn.iload_n dX10_runs_19 rfl rfl ?_
      refine Rn.iconst (v := (nI 0)) dX10_runs_20 rfl ?_
      refine Rn.bipush (v := (nI 60)) dX10_runs_21 rfl ?_
      refine Rn.callSp (As := [_, _, _]) dX10_runs_23 ms_X10_78 rfl rfl (Nat.le_of_ble_eq_true rfl) (ct_in G _ _ _ _ _) ?_
      refine Rn.topI (nI 1) (by exact bI_t h2) ?_
      refine Rn.if_ne (tgt := 33) dX10_runs_26 (by decide) (fun _ => ?_) (fun h9 => absurd h9 (by decide))
      refine Rn.iconst (v := (nI 0)) dX10_runs_33 rfl ?_
      refine Rn.iconst (v := (nI 2)) dX10_runs_34 rfl ?_
      refine Rn.callVp (As := [_, _]) dX10_runs_35 mv_X10_241 (by first | rfl | exact gC0 (by assumption) | exact gL0 (by assumption)) rfl rfl rfl (Nat.le_of_ble_eq_true rfl) (ct_thI0 G _ _ _) ?_
      refine Rn.if_eq (tgt := 43) dX10_runs_38 (by decide) (fun _ => ?_) (fun h9 => absurd h9 (by decide))
      refine Rn.aload_n dX10_runs_43 rfl rfl ?_
      refine Rn.callVp (As := []) dX10_runs_44 mv_X10_352 (by first | rfl | exact gC0 (by assumption) | exact gL0 (by assumption)) rfl rfl rfl (Nat.le_of_ble_eq_true rfl) (ct_keepsAll G _ _) ?_
      refine Rn.aload_n dX10_runs_47 rfl rfl ?_
      refine Rn.iload_n dX10_runs_48 rfl rfl ?_
      refine Rn.iconst (v := (nI 0)) dX10_runs_49 rfl ?_
      refine Rn.iload_n dX10_runs_50 rfl rfl ?_
      refine Rn.callV (As := [_, _, _]) dX10_runs_51 mv_X10_375 (by first | rfl | exact gC0 (by assumption) | exact gL0 (by assumption)) rfl rfl rfl (Nat.le_of_ble_eq_true rfl) (sb_turns0 G d (MK.keeps T.1 T.2.1 T.2.2) t y ht hy) (fun _ _ h => h) (fun v J h => ?_)
      obtain ⟨rfl, hK⟩ := h
      refine Rn.aload_n dX10_runs_54 rfl rfl ?_
      refine Rn.iload_n dX10_runs_55 rfl rfl ?_
      refine Rn.callV (As := [_]) dX10_runs_56 mv_X10_272 (by first | rfl | exact gC0 (by assumption) | exact gL0 (by assumption)) rfl rfl rfl (Nat.le_of_ble_eq_true rfl) (sb_luckIn G (d + 6) hK t ht) (fun _ _ h => h) (fun v J h => ?_)
      obtain ⟨⟨r, rfl⟩, hK2⟩ := h
      refine Rn.istore_n dX10_runs_59 rfl (by decide) ?_
      refine Rn.aload_n dX10_runs_60 rfl rfl ?_
      refine Rn.callVp (As := []) dX10_runs_61 mv_X10_359 (by first | rfl | exact gC0 (by assumption) | exact gL0 (by assumption)) rfl rfl rfl (Nat.le_of_ble_eq_true rfl) (ct_bringsBack G _ _) ?_
      refine Rn.iload_n dX10_runs_64 rfl rfl ?_
      exact Rn.iret dX10_runs_65 rfl (⟨⟨_, rfl⟩, hK2.back⟩)
    · skip
      refine Rn.aload_n dX10_runs_0 rfl rfl ?_
      refine Rn.iconst (v := (nI 0)) dX10_runs_1 rfl ?_
      refine Rn.putI dX10_runs_2 fp_X10_3_9 (by first | rfl | exact gC0 (by assumption) | exact gL0 (by assumption)) rfl ?_
      refine Rn.aload_n dX10_runs_5 rfl rfl ?_
      refine Rn.aload_n dX10_runs_6 rfl rfl ?_
      refine Rn.iload_n dX10_runs_7 rfl rfl ?_
      refine Rn.callVp (As := [_]) dX10_runs_8 mv_X10_284 (by first | rfl | exact gC0 (by assumption) | exact gL0 (by assumption)) rfl rfl rfl (Nat.le_of_ble_eq_true rfl) (ct_noThing G _ _ _) ?_
      refine Rn.topI (nI 0) (by exact bI_f (fun z => z h1)) ?_
      refine Rn.iconst (v := (nI 1)) dX10_runs_11 rfl ?_
      refine Rn.callVp (As := [_, _]) dX10_runs_12 mv_X10_241 (by first | rfl | exact gC0 (by assumption) | exact gL0 (by assumption)) rfl rfl rfl (Nat.le_of_ble_eq_true rfl) (ct_thI0 G _ _ _) ?_
      refine Rn.if_ne (tgt := 41) dX10_runs_15 (by decide) (fun h9 => absurd h9 (by decide)) (fun _ => ?_)
      refine Rn.aload_n dX10_runs_18 rfl rfl ?_
      refine Rn.iload_n dX10_runs_19 rfl rfl ?_
      refine Rn.iconst (v := (nI 0)) dX10_runs_20 rfl ?_
      refine Rn.bipush (v := (nI 60)) dX10_runs_21 rfl ?_
      refine Rn.callSp (As := [_, _, _]) dX10_runs_23 ms_X10_78 rfl rfl (Nat.le_of_ble_eq_true rfl) (ct_in G _ _ _ _ _) ?_
      refine Rn.topI (nI 0) (by exact bI_f h2) ?_
      refine Rn.if_ne (tgt := 33) dX10_runs_26 (by decide) (fun h9 => absurd h9 (by decide)) (fun _ => ?_)
      refine Rn.iconst (v := (nI 1)) dX10_runs_29 rfl ?_
      refine Rn.goto 34 dX10_runs_30 (by decide) ?_
      refine Rn.iconst (v := (nI 2)) dX10_runs_34 rfl ?_
      refine Rn.callVp (As := [_, _]) dX10_runs_35 mv_X10_241 (by first | rfl | exact gC0 (by assumption) | exact gL0 (by assumption)) rfl rfl rfl (Nat.le_of_ble_eq_true rfl) (ct_thI1 G _ _ _) ?_
      refine Rn.if_eq (tgt := 43) dX10_runs_38 (by decide) (fun h9 => absurd h9 (by decide)) (fun _ => ?_)
      refine Rn.iconst (v := (nI 0)) dX10_runs_41 rfl ?_
      exact Rn.iret dX10_runs_42 rfl (⟨⟨_, rfl⟩, BK.thr2 hB hX _ _⟩)
  · skip
    refine Rn.aload_n dX10_runs_0 rfl rfl ?_
    refine Rn.iconst (v := (nI 0)) dX10_runs_1 rfl ?_
    refine Rn.putI dX10_runs_2 fp_X10_3_9 (by first | rfl | exact gC0 (by assumption) | exact gL0 (by assumption)) rfl ?_
    refine Rn.aload_n dX10_runs_5 rfl rfl ?_
    refine Rn.aload_n dX10_runs_6 rfl rfl ?_
    refine Rn.iload_n dX10_runs_7 rfl rfl ?_
    refine Rn.callVp (As := [_]) dX10_runs_8 mv_X10_284 (by first | rfl | exact gC0 (by assumption) | exact gL0 (by assumption)) rfl rfl rfl (Nat.le_of_ble_eq_true rfl) (ct_noThing G _ _ _) ?_
    refine Rn.topI (nI 1) (by exact bI_t h1) ?_
    refine Rn.iconst (v := (nI 1)) dX10_runs_11 rfl ?_
    refine Rn.callVp (As := [_, _]) dX10_runs_12 mv_X10_241 (by first | rfl | exact gC0 (by assumption) | exact gL0 (by assumption)) rfl rfl rfl (Nat.le_of_ble_eq_true rfl) (ct_thI1 G _ _ _) ?_
    refine Rn.if_ne (tgt := 41) dX10_runs_15 (by decide) (fun _ => ?_) (fun h9 => absurd h9 (by decide))
    refine Rn.iconst (v := (nI 0)) dX10_runs_41 rfl ?_
    exact Rn.iret dX10_runs_42 rfl (⟨⟨_, rfl⟩, BK.thr2 hB hX _ _⟩)
end Bck
