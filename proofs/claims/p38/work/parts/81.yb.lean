theorem dX8_takesWord_0 : decode cX8_takesWord 0 = .ok (.aload_n 0, 1) := by decide +kernel
theorem dX8_takesWord_1 : decode cX8_takesWord 1 = .ok (.getfield 40, 3) := by decide +kernel
theorem dX8_takesWord_4 : decode cX8_takesWord 4 = .ok (.iload_n 1, 1) := by decide +kernel
theorem dX8_takesWord_5 : decode cX8_takesWord 5 = .ok (.if_icmp .eq 5, 3) := by decide +kernel
theorem dX8_takesWord_10 : decode cX8_takesWord 10 = .ok (.aload_n 0, 1) := by decide +kernel
theorem dX8_takesWord_11 : decode cX8_takesWord 11 = .ok (.invokevirtual 22, 3) := by decide +kernel
theorem dX8_takesWord_14 : decode cX8_takesWord 14 = .ok (.iconst 1, 1) := by decide +kernel
theorem dX8_takesWord_15 : decode cX8_takesWord 15 = .ok (.ireturn, 1) := by decide +kernel
theorem dX8_takesWord_8 : decode cX8_takesWord 8 = .ok (.iconst 0, 1) := by decide +kernel
theorem dX8_takesWord_9 : decode cX8_takesWord 9 = .ok (.ireturn, 1) := by decide +kernel
theorem dX8_takesSign_0 : decode cX8_takesSign 0 = .ok (.aload_n 0, 1) := by decide +kernel
theorem dX8_takesSign_1 : decode cX8_takesSign 1 = .ok (.getfield 37, 3) := by decide +kernel
theorem dX8_takesSign_4 : decode cX8_takesSign 4 = .ok (.iload_n 1, 1) := by decide +kernel
theorem dX8_takesSign_5 : decode cX8_takesSign 5 = .ok (.if_icmp .eq 5, 3) := by decide +kernel
theorem dX8_takesSign_10 : decode cX8_takesSign 10 = .ok (.aload_n 0, 1) := by decide +kernel
theorem dX8_takesSign_11 : decode cX8_takesSign 11 = .ok (.invokevirtual 22, 3) := by decide +kernel
theorem dX8_takesSign_14 : decode cX8_takesSign 14 = .ok (.iconst 1, 1) := by decide +kernel
theorem dX8_takesSign_15 : decode cX8_takesSign 15 = .ok (.ireturn, 1) := by decide +kernel
theorem dX8_takesSign_8 : decode cX8_takesSign 8 = .ok (.iconst 0, 1) := by decide +kernel
theorem dX8_takesSign_9 : decode cX8_takesSign 9 = .ok (.ireturn, 1) := by decide +kernel
theorem dX8_takeNumber_0 : decode cX8_takeNumber 0 = .ok (.aload_n 0, 1) := by decide +kernel
theorem dX8_takeNumber_1 : decode cX8_takeNumber 1 = .ok (.getfield 43, 3) := by decide +kernel
theorem dX8_takeNumber_4 : decode cX8_takeNumber 4 = .ok (.istore_n 2, 1) := by decide +kernel
theorem dX8_takeNumber_5 : decode cX8_takeNumber 5 = .ok (.iload_n 2, 1) := by decide +kernel
theorem dX8_takeNumber_6 : decode cX8_takeNumber 6 = .ok (.iconst (-1), 1) := by decide +kernel
theorem dX8_takeNumber_7 : decode cX8_takeNumber 7 = .ok (.if_icmp .eq 8, 3) := by decide +kernel
theorem dX8_takeNumber_15 : decode cX8_takeNumber 15 = .ok (.iconst (-1), 1) := by decide +kernel
theorem dX8_takeNumber_16 : decode cX8_takeNumber 16 = .ok (.ireturn, 1) := by decide +kernel
theorem dX8_takeNumber_10 : decode cX8_takeNumber 10 = .ok (.iload_n 2, 1) := by decide +kernel
theorem dX8_takeNumber_11 : decode cX8_takeNumber 11 = .ok (.iload_n 1, 1) := by decide +kernel
theorem dX8_takeNumber_12 : decode cX8_takeNumber 12 = .ok (.if_icmp .le 5, 3) := by decide +kernel
theorem dX8_takeNumber_17 : decode cX8_takeNumber 17 = .ok (.aload_n 0, 1) := by decide +kernel
theorem dX8_takeNumber_18 : decode cX8_takeNumber 18 = .ok (.invokevirtual 22, 3) := by decide +kernel
theorem dX8_takeNumber_21 : decode cX8_takeNumber 21 = .ok (.iload_n 2, 1) := by decide +kernel
theorem dX8_takeNumber_22 : decode cX8_takeNumber 22 = .ok (.ireturn, 1) := by decide +kernel
/-! the class's reader of things -/
theorem TQ5_TX {I : Hi} {c : Nat → Nat} {e : Nat} (hT : TX I c e) (q : Nat) : TX (TQ5 I c e q) c e := ⟨hT.1, hT.2.1, hT.2.2⟩
theorem TQ5_TQ5 (I : Hi) (c : Nat → Nat) (e q r : Nat) : TQ5 (TQ5 I c e q) c e r = TQ5 I c e r := by
  unfold TQ5 TS
  rw [zset_zset]
  congr 1
  funext j
  rw [zset_at]
  simp only [TA]
  split <;> try rfl
  split <;> try rfl
  split <;> try rfl
  split <;> try rfl
  split <;> rfl
theorem KP.tx {I K : Hi} {c : Nat → Nat} {e : Nat} (h : KP I K) (hT : TX I c e) : TX K c e := ⟨hT.1, by rw [h.2 1 (by decide)]; exact hT.2.1, fun i hi => by rw [h.2 2 (by decide)]; exact hT.2.2 i hi⟩
/-- what a reader of the class leaves -/
def CO5 (I : Hi) (c : Nat → Nat) (e : Nat) (o : Go) (v : Option Value) (J : Hi) : Prop := ∃ K q', KP I K ∧ J = TQ5 K c e q' ∧ q' ≤ e ∧ ((o = .inl q' ∧ v = some (.int (nI 0))) ∨ (o = .inr q' ∧ v = some (.int (nI 1))))
section Clr
variable (G : Gx) (d : Nat) (I : Hi) {c : Nat → Nat} {e : Nat}
theorem ct_st (hT : TX I c e) (q : Nat) (hq : q < e) : Ct G GAM mX8_step d 0 [.ref 1] (TQ5 I c e q) (Rp none (TQ5 I c e (nx c e q))) :=
  (ct_step5 G d (TQ5 I c e q) (TQ5_TX hT q) (bh c e q) (bh_le hq) rfl).weak (fun o J h => ⟨h.1, h.2.trans (TQ5_TQ5 I c e q _)⟩)
theorem ct_tkW (hT : TX I c e) (w : Int32) (q : Nat) (hw : w ≠ 0) : Ct G GAM mX8_takesWord (d + 1) 0 [.ref 1, .int w] (TQ5 I c e q) (Rv (fun v J => (wv c e q ≠ w ∧ v = some (.int (nI 0)) ∧ J = TQ5 I c e q) ∨ (wv c e q = w ∧ q < e ∧ v = some (.int (nI 1)) ∧ J = TQ5 I c e (nx c e q)))) := by
  refine Ct.mk [some (.ref 1), some (.int w)] ?_
  refine Rn.aload_n dX8_takesWord_0 rfl rfl ?_
  refine Rn.getI dX8_takesWord_1 fd_X8_40_7 (by first | rfl | exact gC0 (by assumption) | exact gL0 (by assumption)) rfl ?_
  refine Rn.topI (wv c e q) (by rfl) ?_
  refine Rn.iload_n dX8_takesWord_4 rfl rfl ?_
  refine Rn.icmp_eq (tgt := 10) dX8_takesWord_5 (by decide) (fun h1 => ?_) (fun h1 => ?_)
  · have hq : q < e := wv_lt (by rw [h1]; exact hw)
    refine Rn.aload_n dX8_takesWord_10 rfl rfl ?_
    refine Rn.callVp (As := []) dX8_takesWord_11 mv_X8_22 (by first | rfl | exact gC0 (by assumption) | exact gL0 (by assumption)) rfl rfl rfl (Nat.le_of_ble_eq_true rfl) (ct_st G _ I hT q (by exact hq)) ?_
    refine Rn.iconst (v := (nI 1)) dX8_takesWord_14 rfl ?_
    exact Rn.zret dX8_takesWord_15 rfl rfl (Or.inr ⟨h1, hq, rfl, rfl⟩)
  · refine Rn.iconst (v := (nI 0)) dX8_takesWord_8 rfl ?_
    exact Rn.zret dX8_takesWord_9 rfl rfl (Or.inl ⟨h1, rfl, rfl⟩)
theorem ct_tkS (hT : TX I c e) (s q : Nat) (hs : s < 1000) : Ct G GAM mX8_takesSign (d + 1) 0 [.ref 1, .int (nI s)] (TQ5 I c e q) (Rv (fun v J => (fs c e q ≠ nI s ∧ v = some (.int (nI 0)) ∧ J = TQ5 I c e q) ∨ (fs c e q = nI s ∧ q < e ∧ v = some (.int (nI 1)) ∧ J = TQ5 I c e (nx c e q)))) := by
  refine Ct.mk [some (.ref 1), some (.int (nI s))] ?_
  refine Rn.aload_n dX8_takesSign_0 rfl rfl ?_
  refine Rn.getI dX8_takesSign_1 fd_X8_37_7 (by first | rfl | exact gC0 (by assumption) | exact gL0 (by assumption)) rfl ?_
  refine Rn.topI (fs c e q) (by rfl) ?_
  refine Rn.iload_n dX8_takesSign_4 rfl rfl ?_
  refine Rn.icmp_eq (tgt := 10) dX8_takesSign_5 (by decide) (fun h1 => ?_) (fun h1 => ?_)
  · have hq : q < e := fs_lt hs h1
    refine Rn.aload_n dX8_takesSign_10 rfl rfl ?_
    refine Rn.callVp (As := []) dX8_takesSign_11 mv_X8_22 (by first | rfl | exact gC0 (by assumption) | exact gL0 (by assumption)) rfl rfl rfl (Nat.le_of_ble_eq_true rfl) (ct_st G _ I hT q (by exact hq)) ?_
    refine Rn.iconst (v := (nI 1)) dX8_takesSign_14 rfl ?_
    exact Rn.zret dX8_takesSign_15 rfl rfl (Or.inr ⟨h1, hq, rfl, rfl⟩)
  · refine Rn.iconst (v := (nI 0)) dX8_takesSign_8 rfl ?_
    exact Rn.zret dX8_takesSign_9 rfl rfl (Or.inl ⟨h1, rfl, rfl⟩)
theorem ct_tkN (hT : TX I c e) (m : Int32) (q : Nat) : Ct G GAM mX8_takeNumber (d + 1) 0 [.ref 1, .int m] (TQ5 I c e q) (Rv (fun v J => (gNum c e m q = .inl q ∧ v = some (.int (-1)) ∧ J = TQ5 I c e q) ∨ (∃ x, gNum c e m q = .inr (nx c e q) ∧ q < e ∧ x ≠ -1 ∧ v = some (.int x) ∧ J = TQ5 I c e (nx c e q)))) := by
  refine Ct.mk [some (.ref 1), some (.int m), none] ?_
  refine Rn.aload_n dX8_takeNumber_0 rfl rfl ?_
  refine Rn.getI dX8_takeNumber_1 fd_X8_43_7 (by first | rfl | exact gC0 (by assumption) | exact gL0 (by assumption)) rfl ?_
  refine Rn.topI (tn c e q) (by rfl) ?_
  refine Rn.istore_n dX8_takeNumber_4 rfl (by decide) ?_
  refine Rn.iload_n dX8_takeNumber_5 rfl rfl ?_
  refine Rn.iconst (v := (-1)) dX8_takeNumber_6 rfl ?_
  refine Rn.icmp_eq (tgt := 15) dX8_takeNumber_7 (by decide) (fun h1 => ?_) (fun h1 => ?_)
  · refine Rn.iconst (v := (-1)) dX8_takeNumber_15 rfl ?_
    exact Rn.iret dX8_takeNumber_16 rfl (Or.inl ⟨if_pos (Or.inl h1), rfl, rfl⟩)
  · refine Rn.iload_n dX8_takeNumber_10 rfl rfl ?_
    refine Rn.iload_n dX8_takeNumber_11 rfl rfl ?_
    refine Rn.icmp_le (tgt := 17) dX8_takeNumber_12 (by decide) (fun h2 => ?_) (fun h2 => ?_)
    · have hq : q < e := tn_lt h1
      refine Rn.aload_n dX8_takeNumber_17 rfl rfl ?_
      refine Rn.callVp (As := []) dX8_takeNumber_18 mv_X8_22 (by first | rfl | exact gC0 (by assumption) | exact gL0 (by assumption)) rfl rfl rfl (Nat.le_of_ble_eq_true rfl) (ct_st G _ I hT q (by exact hq)) ?_
      refine Rn.iload_n dX8_takeNumber_21 rfl rfl ?_
      exact Rn.iret dX8_takeNumber_22 rfl (Or.inr ⟨_, if_neg (fun z => z.elim h1 (fun y => absurd y (Int32.not_lt.mpr h2))), hq, h1, rfl, rfl⟩)
    · refine Rn.iconst (v := (-1)) dX8_takeNumber_15 rfl ?_
      exact Rn.iret dX8_takeNumber_16 rfl (Or.inl ⟨if_pos (Or.inr (Int32.not_le.mp h2)), rfl, rfl⟩)
end Clr
