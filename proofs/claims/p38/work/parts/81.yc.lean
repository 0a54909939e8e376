theorem dX2_addStep_0 : decode cX2_addStep 0 = .ok (.aload_n 0, 1) := by decide +kernel
theorem dX2_addStep_1 : decode cX2_addStep 1 = .ok (.getfield 34, 3) := by decide +kernel
theorem dX2_addStep_4 : decode cX2_addStep 4 = .ok (.ifCond .lt 65, 3) := by decide +kernel
theorem dX2_addStep_69 : decode cX2_addStep 69 = .ok (.return_, 1) := by decide +kernel
theorem dX2_addStep_7 : decode cX2_addStep 7 = .ok (.aload_n 0, 1) := by decide +kernel
theorem dX2_addStep_8 : decode cX2_addStep 8 = .ok (.getfield 34, 3) := by decide +kernel
theorem dX2_addStep_11 : decode cX2_addStep 11 = .ok (.sipush 400, 3) := by decide +kernel
theorem dX2_addStep_14 : decode cX2_addStep 14 = .ok (.if_icmp .ge 55, 3) := by decide +kernel
theorem dX2_addStep_17 : decode cX2_addStep 17 = .ok (.aload_n 0, 1) := by decide +kernel
theorem dX2_addStep_18 : decode cX2_addStep 18 = .ok (.getfield 9, 3) := by decide +kernel
theorem dX2_addStep_21 : decode cX2_addStep 21 = .ok (.iconst 1, 1) := by decide +kernel
theorem dX2_addStep_22 : decode cX2_addStep 22 = .ok (.if_icmp .lt 47, 3) := by decide +kernel
theorem dX2_addStep_25 : decode cX2_addStep 25 = .ok (.aload_n 0, 1) := by decide +kernel
theorem dX2_addStep_26 : decode cX2_addStep 26 = .ok (.getfield 9, 3) := by decide +kernel
theorem dX2_addStep_29 : decode cX2_addStep 29 = .ok (.bipush 12, 2) := by decide +kernel
theorem dX2_addStep_31 : decode cX2_addStep 31 = .ok (.if_icmp .gt 38, 3) := by decide +kernel
theorem dX2_addStep_34 : decode cX2_addStep 34 = .ok (.aload_n 0, 1) := by decide +kernel
theorem dX2_addStep_35 : decode cX2_addStep 35 = .ok (.getfield 25, 3) := by decide +kernel
theorem dX2_addStep_38 : decode cX2_addStep 38 = .ok (.aload_n 0, 1) := by decide +kernel
theorem dX2_addStep_39 : decode cX2_addStep 39 = .ok (.getfield 34, 3) := by decide +kernel
theorem dX2_addStep_42 : decode cX2_addStep 42 = .ok (.iload_n 1, 1) := by decide +kernel
theorem dX2_addStep_43 : decode cX2_addStep 43 = .ok (.iastore, 1) := by decide +kernel
theorem dX2_addStep_44 : decode cX2_addStep 44 = .ok (.aload_n 0, 1) := by decide +kernel
theorem dX2_addStep_45 : decode cX2_addStep 45 = .ok (.dup, 1) := by decide +kernel
theorem dX2_addStep_46 : decode cX2_addStep 46 = .ok (.getfield 34, 3) := by decide +kernel
theorem dX2_addStep_49 : decode cX2_addStep 49 = .ok (.iconst 1, 1) := by decide +kernel
theorem dX2_addStep_50 : decode cX2_addStep 50 = .ok (.iadd, 1) := by decide +kernel
theorem dX2_addStep_51 : decode cX2_addStep 51 = .ok (.putfield 34, 3) := by decide +kernel
theorem dX2_addStep_54 : decode cX2_addStep 54 = .ok (.aload_n 0, 1) := by decide +kernel
theorem dX2_addStep_55 : decode cX2_addStep 55 = .ok (.getfield 22, 3) := by decide +kernel
theorem dX2_addStep_58 : decode cX2_addStep 58 = .ok (.aload_n 0, 1) := by decide +kernel
theorem dX2_addStep_59 : decode cX2_addStep 59 = .ok (.getfield 9, 3) := by decide +kernel
theorem dX2_addStep_62 : decode cX2_addStep 62 = .ok (.iconst 1, 1) := by decide +kernel
theorem dX2_addStep_63 : decode cX2_addStep 63 = .ok (.isub, 1) := by decide +kernel
theorem dX2_addStep_64 : decode cX2_addStep 64 = .ok (.aload_n 0, 1) := by decide +kernel
theorem dX2_addStep_65 : decode cX2_addStep 65 = .ok (.getfield 34, 3) := by decide +kernel
theorem dX2_addStep_68 : decode cX2_addStep 68 = .ok (.iastore, 1) := by decide +kernel
theorem dX3_partOf_0 : decode cX3_partOf 0 = .ok (.iload_n 0, 1) := by decide +kernel
theorem dX3_partOf_1 : decode cX3_partOf 1 = .ok (.lookupswitch 85 #[(8243, 79), (23716, 76), (638548, 71), (758834, 73), (8892563, 82), (21243335, 69), (24622126, 67)], 67) := by decide +kernel
theorem dX3_partOf_80 : decode cX3_partOf 80 = .ok (.bipush 8, 2) := by decide +kernel
theorem dX3_partOf_82 : decode cX3_partOf 82 = .ok (.ireturn, 1) := by decide +kernel
theorem dX3_partOf_77 : decode cX3_partOf 77 = .ok (.bipush 7, 2) := by decide +kernel
theorem dX3_partOf_79 : decode cX3_partOf 79 = .ok (.ireturn, 1) := by decide +kernel
theorem dX3_partOf_72 : decode cX3_partOf 72 = .ok (.iconst 5, 1) := by decide +kernel
theorem dX3_partOf_73 : decode cX3_partOf 73 = .ok (.ireturn, 1) := by decide +kernel
theorem dX3_partOf_74 : decode cX3_partOf 74 = .ok (.bipush 6, 2) := by decide +kernel
theorem dX3_partOf_76 : decode cX3_partOf 76 = .ok (.ireturn, 1) := by decide +kernel
theorem dX3_partOf_83 : decode cX3_partOf 83 = .ok (.bipush 9, 2) := by decide +kernel
theorem dX3_partOf_85 : decode cX3_partOf 85 = .ok (.ireturn, 1) := by decide +kernel
theorem dX3_partOf_70 : decode cX3_partOf 70 = .ok (.iconst 4, 1) := by decide +kernel
theorem dX3_partOf_71 : decode cX3_partOf 71 = .ok (.ireturn, 1) := by decide +kernel
theorem dX3_partOf_68 : decode cX3_partOf 68 = .ok (.iconst 3, 1) := by decide +kernel
theorem dX3_partOf_69 : decode cX3_partOf 69 = .ok (.ireturn, 1) := by decide +kernel
theorem dX3_partOf_86 : decode cX3_partOf 86 = .ok (.iconst (-1), 1) := by decide +kernel
theorem dX3_partOf_87 : decode cX3_partOf 87 = .ok (.ireturn, 1) := by decide +kernel
theorem dX3_traitOf_0 : decode cX3_traitOf 0 = .ok (.iload_n 0, 1) := by decide +kernel
theorem dX3_traitOf_1 : decode cX3_traitOf 1 = .ok (.lookupswitch 41 #[(16110, 37), (78501, 39), (24416759, 35)], 35) := by decide +kernel
theorem dX3_traitOf_38 : decode cX3_traitOf 38 = .ok (.iconst 1, 1) := by decide +kernel
theorem dX3_traitOf_39 : decode cX3_traitOf 39 = .ok (.ireturn, 1) := by decide +kernel
theorem dX3_traitOf_40 : decode cX3_traitOf 40 = .ok (.iconst 2, 1) := by decide +kernel
theorem dX3_traitOf_41 : decode cX3_traitOf 41 = .ok (.ireturn, 1) := by decide +kernel
theorem dX3_traitOf_36 : decode cX3_traitOf 36 = .ok (.iconst 0, 1) := by decide +kernel
theorem dX3_traitOf_37 : decode cX3_traitOf 37 = .ok (.ireturn, 1) := by decide +kernel
theorem dX3_traitOf_42 : decode cX3_traitOf 42 = .ok (.iconst (-1), 1) := by decide +kernel
theorem dX3_traitOf_43 : decode cX3_traitOf 43 = .ok (.ireturn, 1) := by decide +kernel
/-! the class's law in the making -/
theorem TQ5_ne {I : Hi} {c : Nat → Nat} {e q a : Nat} (h : a ≠ 1) : TQ5 I c e q a = I a := by
  unfold TQ5 TS
  exact zset_ne _ _ h
theorem KP.ts {I J : Hi} {c : Nat → Nat} {e q : Nat} (h : KP (TQ5 I c e q) J) : ∃ K, KP I K ∧ J = TQ5 K c e q := by
  have h1 : J 1 = TA (I 1) (nI q) (nI (bh c e q)) (wv c e q) (tn c e q) (fs c e q) := by
    rw [h.2 1 (by decide)]
    show (zset I 1 _) 1 = _
    exact zset_at _ _ _
  refine ⟨zset J 1 (I 1), ⟨?_, fun a ha => ?_⟩, ?_⟩
  · rw [zset_ne _ _ (by decide), h.1]
    rw [TQ5_ne (by decide)]
  · by_cases z : a = 1
    · subst z; rw [zset_at]
    · rw [zset_ne _ _ z, h.2 a ha, TQ5_ne z]
  · unfold TQ5 TS
    rw [zset_zset, zset_at, ← h1, zset_self]
theorem KP.up {I K : Hi} {a j : Nat} {v : Int32} (h : KP I K) (ha : 23 ≤ a ∧ a ≤ 29) (hj : ¬ (a = 23 ∧ j = 0)) : KP I (zup K a j v) := by
  refine ⟨?_, fun b hb => ?_⟩
  · by_cases z : a = 23
    · subst z
      rw [zup_at, upd_ne _ _ (fun y => hj ⟨rfl, y.symm⟩)]
      exact h.1
    · rw [zup_ne _ _ (fun y => z y.symm)]
      exact h.1
  · rw [zup_ne _ _ (fun y => hb (by rw [y]; exact ha))]
    exact h.2 b hb
theorem nat_of {x : Int32} {n : Nat} (h1 : ¬ x < 0) (h2 : ¬ nI n ≤ x) (hn : n < 1000) : ∃ k, k < n ∧ x = nI k := by
  have a1 := Int32.le_iff_toInt_le.mp (Int32.not_lt.mp h1)
  have a2 := Int32.lt_iff_toInt_lt.mp (Int32.not_le.mp h2)
  rw [Int32.toInt_zero] at a1
  rw [nI_toInt (by omega)] at a2
  obtain ⟨k, hk, e⟩ := nI_iv (n := n) (x := x) ⟨a1, by show _ ≤ (n : Int); omega⟩
  refine ⟨k, ?_, e⟩
  rw [e, nI_toInt (by omega)] at a2
  omega
section Add
variable (G : Gx) (d : Nat) (I : Hi) {c : Nat → Nat} {e : Nat}
theorem ct_addS0 (x : Int32) : Ct G GAM mX2_addStep d 0 [.ref 23, .int x] I (Rv (fun v J => v = none ∧ KP I J)) := by
  refine Ct.mk [some (.ref 23), some (.int x)] ?_
  refine Rn.aload_n dX2_addStep_0 rfl rfl ?_
  refine Rn.getI dX2_addStep_1 fd_X2_34_2 (by first | rfl | exact gC0 (by assumption) | exact gL0 (by assumption)) rfl ?_
  refine Rn.if_lt (tgt := 69) dX2_addStep_4 (by decide) (fun h1 => ?_) (fun h1 => ?_)
  · exact Rn.vret dX2_addStep_69 rfl (⟨rfl, KP.refl I⟩)
  · refine Rn.aload_n dX2_addStep_7 rfl rfl ?_
    refine Rn.getI dX2_addStep_8 fd_X2_34_2 (by first | rfl | exact gC0 (by assumption) | exact gL0 (by assumption)) rfl ?_
    refine Rn.sipush (v := (nI 400)) dX2_addStep_11 rfl ?_
    refine Rn.icmp_ge (tgt := 69) dX2_addStep_14 (by decide) (fun h2 => ?_) (fun h2 => ?_)
    · exact Rn.vret dX2_addStep_69 rfl (⟨rfl, KP.refl I⟩)
    · obtain ⟨n, hn, hs⟩ := nat_of h1 h2 (by decide)
      refine Rn.aload_n dX2_addStep_17 rfl rfl ?_
      refine Rn.getI dX2_addStep_18 fd_X2_9_2 (by first | rfl | exact gC0 (by assumption) | exact gL0 (by assumption)) rfl ?_
      refine Rn.iconst (v := (nI 1)) dX2_addStep_21 rfl ?_
      refine Rn.icmp_lt (tgt := 69) dX2_addStep_22 (by decide) (fun h3 => ?_) (fun h3 => ?_)
      · exact Rn.vret dX2_addStep_69 rfl (⟨rfl, KP.refl I⟩)
      · refine Rn.aload_n dX2_addStep_25 rfl rfl ?_
        refine Rn.getI dX2_addStep_26 fd_X2_9_2 (by first | rfl | exact gC0 (by assumption) | exact gL0 (by assumption)) rfl ?_
        refine Rn.bipush (v := (nI 12)) dX2_addStep_29 rfl ?_
        refine Rn.icmp_gt (tgt := 69) dX2_addStep_31 (by decide) (fun h4 => ?_) (fun h4 => ?_)
        · exact Rn.vret dX2_addStep_69 rfl (⟨rfl, KP.refl I⟩)
        · have hl : ∃ m, m < 12 ∧ I 23 0 = nI (m + 1) := by
            have a1 := Int32.le_iff_toInt_le.mp (Int32.not_lt.mp h3)
            have a2 := Int32.le_iff_toInt_le.mp (Int32.not_lt.mp h4)
            rw [nI_toInt (by decide)] at a1 a2
            obtain ⟨k, hk, e⟩ := nI_iv (n := 12) (x := I 23 0) ⟨by omega, by exact a2⟩
            rw [e, nI_toInt (by omega)] at a1
            exact ⟨k - 1, by omega, by rw [e]; congr 1; omega⟩
          obtain ⟨m, hm, hl⟩ := hl
          refine Rn.aload_n dX2_addStep_34 rfl rfl ?_
          refine Rn.getR dX2_addStep_35 fd_X2_25_2 (by first | rfl | exact gC0 (by assumption) | exact gL0 (by assumption)) rfl ?_
          refine Rn.aload_n dX2_addStep_38 rfl rfl ?_
          refine Rn.getI dX2_addStep_39 fd_X2_34_2 (by first | rfl | exact gC0 (by assumption) | exact gL0 (by assumption)) rfl ?_
          refine Rn.topI (nI n) (by exact hs) ?_
          refine Rn.iload_n dX2_addStep_42 rfl rfl ?_
          refine Rn.iastN dX2_addStep_43 (by first | rfl | exact gC1 (by assumption) | exact gC2 (by assumption) | exact gC3 (by assumption) | exact gL1 (by assumption) | exact gL2 (by assumption) | exact gL3 (by assumption) | exact gL4 (by assumption) | exact gL5 (by assumption) | exact gL6 (by assumption)) ?_
          refine Rn.aload_n dX2_addStep_44 rfl rfl ?_
          refine Rn.dup dX2_addStep_45 rfl ?_
          refine Rn.getI dX2_addStep_46 fd_X2_34_2 (by first | rfl | exact gC0 (by assumption) | exact gL0 (by assumption)) rfl ?_
          refine Rn.topI (nI n) (by exact hs) ?_
          refine Rn.iconst (v := (nI 1)) dX2_addStep_49 rfl ?_
          refine Rn.iadd dX2_addStep_50 ?_
          refine Rn.topI (nI (n + 1)) (by exact nI_1 n) ?_
          refine Rn.putI dX2_addStep_51 fp_X2_34_2 (by first | rfl | exact gC0 (by assumption) | exact gL0 (by assumption)) rfl ?_
          refine Rn.aload_n dX2_addStep_54 rfl rfl ?_
          refine Rn.getR dX2_addStep_55 fd_X2_22_2 (by first | rfl | exact gC0 (by assumption) | exact gL0 (by assumption)) rfl ?_
          refine Rn.aload_n dX2_addStep_58 rfl rfl ?_
          refine Rn.getI dX2_addStep_59 fd_X2_9_2 (by first | rfl | exact gC0 (by assumption) | exact gL0 (by assumption)) rfl ?_
          refine Rn.topI (nI (m + 1)) (by exact hl) ?_
          refine Rn.iconst (v := (nI 1)) dX2_addStep_62 rfl ?_
          refine Rn.isub dX2_addStep_63 ?_
          refine Rn.topI (nI m) (by rw [← nI_1]; exact Int32.add_sub_cancel _ _) ?_
          refine Rn.aload_n dX2_addStep_64 rfl rfl ?_
          refine Rn.getI dX2_addStep_65 fd_X2_34_2 (by first | rfl | exact gC0 (by assumption) | exact gL0 (by assumption)) rfl ?_
          refine Rn.iastN dX2_addStep_68 (by first | rfl | exact gC1 (by assumption) | exact gC2 (by assumption) | exact gC3 (by assumption) | exact gL1 (by assumption) | exact gL2 (by assumption) | exact gL3 (by assumption) | exact gL4 (by assumption) | exact gL5 (by assumption) | exact gL6 (by assumption)) ?_
          exact Rn.vret dX2_addStep_69 rfl (⟨rfl, ((KP.refl I).up (by decide) (fun z => absurd z.1 (by decide))).up (by decide) (by decide) |>.up (by decide) (fun z => absurd z.1 (by decide))⟩)
theorem ct_addS (x : Int32) (q : Nat) : Ct G GAM mX2_addStep d 0 [.ref 23, .int x] (TQ5 I c e q) (Rv (fun v J => v = none ∧ ∃ K, KP I K ∧ J = TQ5 K c e q)) :=
  (ct_addS0 G d (TQ5 I c e q) x).weak (fun o J h => by
    cases o with
    | inr E => exact h.elim
    | inl v => exact ⟨h.1, h.2.ts⟩)
theorem ct_partOf (w : Int32) : Ct G GAM mX3_partOf d 0 [.int w] I (Rv (fun v J => J = I ∧ ((¬ isPart w ∧ v = some (.int (-1))) ∨ (isPart w ∧ ∃ k, k < 100 ∧ v = some (.int (nI k)))))) := by
  have ne : ∀ k : Int32, w ≠ k → k.toInt ≠ w.toInt := fun k h z => h (Int32.toInt_inj.mp z.symm)
  refine Ct.mk [some (.int w)] ?_
  refine Rn.iload_n dX3_partOf_0 rfl rfl ?_
  by_cases h1 : w = 8243
  · subst h1
    refine Rn.lookup 80 dX3_partOf_1 (by decide) (off := 79) (by decide) (by decide) ?_
    refine Rn.bipush (v := (nI 8)) dX3_partOf_80 rfl ?_
    exact Rn.iret dX3_partOf_82 rfl (⟨rfl, Or.inr ⟨by decide, 8, by decide, rfl⟩⟩)
  by_cases h2 : w = 23716
  · subst h2
    refine Rn.lookup 77 dX3_partOf_1 (by decide) (off := 76) (by decide) (by decide) ?_
    refine Rn.bipush (v := (nI 7)) dX3_partOf_77 rfl ?_
    exact Rn.iret dX3_partOf_79 rfl (⟨rfl, Or.inr ⟨by decide, 7, by decide, rfl⟩⟩)
  by_cases h3 : w = 638548
  · subst h3
    refine Rn.lookup 72 dX3_partOf_1 (by decide) (off := 71) (by decide) (by decide) ?_
    refine Rn.iconst (v := (nI 5)) dX3_partOf_72 rfl ?_
    exact Rn.iret dX3_partOf_73 rfl (⟨rfl, Or.inr ⟨by decide, 5, by decide, rfl⟩⟩)
  by_cases h4 : w = 758834
  · subst h4
    refine Rn.lookup 74 dX3_partOf_1 (by decide) (off := 73) (by decide) (by decide) ?_
    refine Rn.bipush (v := (nI 6)) dX3_partOf_74 rfl ?_
    exact Rn.iret dX3_partOf_76 rfl (⟨rfl, Or.inr ⟨by decide, 6, by decide, rfl⟩⟩)
  by_cases h5 : w = 8892563
  · subst h5
    refine Rn.lookup 83 dX3_partOf_1 (by decide) (off := 82) (by decide) (by decide) ?_
    refine Rn.bipush (v := (nI 9)) dX3_partOf_83 rfl ?_
    exact Rn.iret dX3_partOf_85 rfl (⟨rfl, Or.inr ⟨by decide, 9, by decide, rfl⟩⟩)
  by_cases h6 : w = 21243335
  · subst h6
    refine Rn.lookup 70 dX3_partOf_1 (by decide) (off := 69) (by decide) (by decide) ?_
    refine Rn.iconst (v := (nI 4)) dX3_partOf_70 rfl ?_
    exact Rn.iret dX3_partOf_71 rfl (⟨rfl, Or.inr ⟨by decide, 4, by decide, rfl⟩⟩)
  by_cases h7 : w = 24622126
  · subst h7
    refine Rn.lookup 68 dX3_partOf_1 (by decide) (off := 67) (by decide) (by decide) ?_
    refine Rn.iconst (v := (nI 3)) dX3_partOf_68 rfl ?_
    exact Rn.iret dX3_partOf_69 rfl (⟨rfl, Or.inr ⟨by decide, 3, by decide, rfl⟩⟩)
  refine Rn.lookup 86 dX3_partOf_1 (by decide) (off := 85) ?_ (by decide) ?_
  · show Op.lookupswitch.offset [(8243, 79), (23716, 76), (638548, 71), (758834, 73), (8892563, 82), (21243335, 69), (24622126, 67)] 85 w.toInt = 85
    rw [Op.lookupswitch.offset_cons, if_neg (show (8243 : Int) ≠ w.toInt from ne 8243 h1), Op.lookupswitch.offset_cons, if_neg (show (23716 : Int) ≠ w.toInt from ne 23716 h2), Op.lookupswitch.offset_cons, if_neg (show (638548 : Int) ≠ w.toInt from ne 638548 h3), Op.lookupswitch.offset_cons, if_neg (show (758834 : Int) ≠ w.toInt from ne 758834 h4), Op.lookupswitch.offset_cons, if_neg (show (8892563 : Int) ≠ w.toInt from ne 8892563 h5), Op.lookupswitch.offset_cons, if_neg (show (21243335 : Int) ≠ w.toInt from ne 21243335 h6), Op.lookupswitch.offset_cons, if_neg (show (24622126 : Int) ≠ w.toInt from ne 24622126 h7)]
    rfl
  refine Rn.iconst (v := (-1)) dX3_partOf_86 rfl ?_
  exact Rn.iret dX3_partOf_87 rfl (⟨rfl, Or.inl ⟨fun z => by rcases z with z | z | z | z | z | z | z <;> contradiction, rfl⟩⟩)
theorem ct_traitOf (w : Int32) : Ct G GAM mX3_traitOf d 0 [.int w] I (Rv (fun v J => J = I ∧ ((¬ isTag w ∧ v = some (.int (-1))) ∨ (isTag w ∧ ∃ k, k < 100 ∧ v = some (.int (nI k)))))) := by
  have ne : ∀ k : Int32, w ≠ k → k.toInt ≠ w.toInt := fun k h z => h (Int32.toInt_inj.mp z.symm)
  refine Ct.mk [some (.int w)] ?_
  refine Rn.iload_n dX3_traitOf_0 rfl rfl ?_
  by_cases h1 : w = 16110
  · subst h1
    refine Rn.lookup 38 dX3_traitOf_1 (by decide) (off := 37) (by decide) (by decide) ?_
    refine Rn.iconst (v := (nI 1)) dX3_traitOf_38 rfl ?_
    exact Rn.iret dX3_traitOf_39 rfl (⟨rfl, Or.inr ⟨by decide, 1, by decide, rfl⟩⟩)
  by_cases h2 : w = 78501
  · subst h2
    refine Rn.lookup 40 dX3_traitOf_1 (by decide) (off := 39) (by decide) (by decide) ?_
    refine Rn.iconst (v := (nI 2)) dX3_traitOf_40 rfl ?_
    exact Rn.iret dX3_traitOf_41 rfl (⟨rfl, Or.inr ⟨by decide, 2, by decide, rfl⟩⟩)
  by_cases h3 : w = 24416759
  · subst h3
    refine Rn.lookup 36 dX3_traitOf_1 (by decide) (off := 35) (by decide) (by decide) ?_
    refine Rn.iconst (v := (nI 0)) dX3_traitOf_36 rfl ?_
    exact Rn.iret dX3_traitOf_37 rfl (⟨rfl, Or.inr ⟨by decide, 0, by decide, rfl⟩⟩)
  refine Rn.lookup 42 dX3_traitOf_1 (by decide) (off := 41) ?_ (by decide) ?_
  · show Op.lookupswitch.offset [(16110, 37), (78501, 39), (24416759, 35)] 41 w.toInt = 41
    rw [Op.lookupswitch.offset_cons, if_neg (show (16110 : Int) ≠ w.toInt from ne 16110 h1), Op.lookupswitch.offset_cons, if_neg (show (78501 : Int) ≠ w.toInt from ne 78501 h2), Op.lookupswitch.offset_cons, if_neg (show (24416759 : Int) ≠ w.toInt from ne 24416759 h3)]
    rfl
  refine Rn.iconst (v := (-1)) dX3_traitOf_42 rfl ?_
  exact Rn.iret dX3_traitOf_43 rfl (⟨rfl, Or.inl ⟨fun z => by rcases z with z | z | z <;> contradiction, rfl⟩⟩)
end Add
