theorem dX9_coast_0 : decode cX9_coast 0 = .ok (.aload_n 0, 1) := by decide +kernel
theorem dX9_coast_1 : decode cX9_coast 1 = .ok (.getfield 23, 3) := by decide +kernel
theorem dX9_coast_4 : decode cX9_coast 4 = .ok (.aload_n 0, 1) := by decide +kernel
theorem dX9_coast_5 : decode cX9_coast 5 = .ok (.getfield 19, 3) := by decide +kernel
theorem dX9_coast_8 : decode cX9_coast 8 = .ok (.invokevirtual 91, 3) := by decide +kernel
theorem dX9_coast_11 : decode cX9_coast 11 = .ok (.aload_n 0, 1) := by decide +kernel
theorem dX9_coast_12 : decode cX9_coast 12 = .ok (.getfield 51, 3) := by decide +kernel
theorem dX9_coast_15 : decode cX9_coast 15 = .ok (.invokevirtual 95, 3) := by decide +kernel
theorem dX9_coast_18 : decode cX9_coast 18 = .ok (.istore_n 1, 1) := by decide +kernel
theorem dX9_coast_19 : decode cX9_coast 19 = .ok (.aload_n 0, 1) := by decide +kernel
theorem dX9_coast_20 : decode cX9_coast 20 = .ok (.iload_n 1, 1) := by decide +kernel
theorem dX9_coast_21 : decode cX9_coast 21 = .ok (.invokevirtual 99, 3) := by decide +kernel
theorem dX9_coast_24 : decode cX9_coast 24 = .ok (.iload_n 1, 1) := by decide +kernel
theorem dX9_coast_25 : decode cX9_coast 25 = .ok (.ifCond .ne 13, 3) := by decide +kernel
theorem dX9_coast_38 : decode cX9_coast 38 = .ok (.aload_n 0, 1) := by decide +kernel
theorem dX9_coast_39 : decode cX9_coast 39 = .ok (.getfield 19, 3) := by decide +kernel
theorem dX9_coast_42 : decode cX9_coast 42 = .ok (.getfield 110, 3) := by decide +kernel
theorem dX9_coast_45 : decode cX9_coast 45 = .ok (.bipush 12, 2) := by decide +kernel
theorem dX9_coast_47 : decode cX9_coast 47 = .ok (.if_icmp .lt 13, 3) := by decide +kernel
theorem dX9_coast_60 : decode cX9_coast 60 = .ok (.aload_n 0, 1) := by decide +kernel
theorem dX9_coast_61 : decode cX9_coast 61 = .ok (.getfield 23, 3) := by decide +kernel
theorem dX9_coast_64 : decode cX9_coast 64 = .ok (.dup, 1) := by decide +kernel
theorem dX9_coast_65 : decode cX9_coast 65 = .ok (.getfield 110, 3) := by decide +kernel
theorem dX9_coast_68 : decode cX9_coast 68 = .ok (.iconst 1, 1) := by decide +kernel
theorem dX9_coast_69 : decode cX9_coast 69 = .ok (.iadd, 1) := by decide +kernel
theorem dX9_coast_70 : decode cX9_coast 70 = .ok (.putfield 110, 3) := by decide +kernel
theorem dX9_coast_73 : decode cX9_coast 73 = .ok (.aload_n 0, 1) := by decide +kernel
theorem dX9_coast_74 : decode cX9_coast 74 = .ok (.getfield 19, 3) := by decide +kernel
theorem dX9_coast_77 : decode cX9_coast 77 = .ok (.aload_n 0, 1) := by decide +kernel
theorem dX9_coast_78 : decode cX9_coast 78 = .ok (.getfield 23, 3) := by decide +kernel
theorem dX9_coast_81 : decode cX9_coast 81 = .ok (.invokevirtual 91, 3) := by decide +kernel
theorem dX9_coast_84 : decode cX9_coast 84 = .ok (.aload_n 0, 1) := by decide +kernel
theorem dX9_coast_85 : decode cX9_coast 85 = .ok (.getfield 76, 3) := by decide +kernel
theorem dX9_coast_88 : decode cX9_coast 88 = .ok (.invokevirtual 118, 3) := by decide +kernel
theorem dX9_coast_91 : decode cX9_coast 91 = .ok (.aload_n 0, 1) := by decide +kernel
theorem dX9_coast_92 : decode cX9_coast 92 = .ok (.getfield 19, 3) := by decide +kernel
theorem dX9_coast_95 : decode cX9_coast 95 = .ok (.getfield 110, 3) := by decide +kernel
theorem dX9_coast_98 : decode cX9_coast 98 = .ok (.ireturn, 1) := by decide +kernel
/-! coast of the class -/
def XC5 (I : Hi) (g : Nat ⊕ (Cs × Nat)) (o : Rs) (J : Hi) : Prop := J 1 1 = nI 0 ∧ (∀ a, a ≠ 0 → a ≠ 1 → ¬ (3 ≤ a ∧ a ≤ 10) → a ≠ 44 → J a = I a) ∧ J 0 11 = I 0 11 ∧ ((∃ x, x ≤ 400 ∧ g = .inl x ∧ o = .inr "java/lang/IllegalArgumentException" ∧ J 0 12 = nI x ∧ J 44 = I 44 ∧ (∀ a, 3 ≤ a → a ≤ 6 → J a = I a)) ∨ (∃ (st : Cs) (n : Nat), g = .inr (st, n) ∧ ¬ I 3 2 < nI 12 ∧ o = .inr "java/lang/UnsupportedOperationException" ∧ J 0 12 = -1 ∧ J 44 = I 44 ∧ (∀ a, 3 ≤ a → a ≤ 6 → J a = I a)) ∨ (∃ (st : Cs) (n : Nat), g = .inr (st, n) ∧ I 3 2 < nI 12 ∧ o = .inl (some (.int (I 3 2 + nI 1))) ∧ J 0 12 = -1 ∧ J 44 1 = nI 0 ∧ J 44 2 = I 44 2 ∧ J 3 0 = nI st.1 ∧ J 3 1 = nI st.2.1 ∧ J 3 2 = I 3 2 + nI 1 ∧ (∀ k, k < st.2.1 → J 5 (9 * k + 8) = st.2.2 k)))
section Kch
variable (G : Gx) (d : Nat) {c : Nat → Nat} {e : Nat}
theorem cl_coast (I : Hi) (hT : TX I c e) (h37 : I 37 0 = nI 14) (w t : Nat) (b : Nat → Int32) (hw : I 3 0 = nI w) (ht : I 3 1 = nI t) (hw8 : w ≤ 8) (ht8 : t ≤ 8) (hb : ∀ k, k < t → I 5 (9 * k + 8) = b k) : Ct G GAM mX9_coast (d + 6) 1 [.ref 0] I (XC5 I (cCoast c e (w, t, b))) := by
  have he := hT.1
  refine Ct.mk [some (.ref 0), none] ?_
  refine Rn.aload_n dX9_coast_0 rfl rfl ?_
  refine Rn.getR dX9_coast_1 fd_X9_23_8 (by first | rfl | exact gC0 (by assumption) | exact gL0 (by assumption)) rfl ?_
  refine Rn.aload_n dX9_coast_4 rfl rfl ?_
  refine Rn.getR dX9_coast_5 fd_X9_19_8 (by first | rfl | exact gC0 (by assumption) | exact gL0 (by assumption)) rfl ?_
  refine Rn.callV (As := [_]) dX9_coast_8 mv_X9_91 (by first | rfl | exact gC0 (by assumption) | exact gL0 (by assumption)) rfl rfl rfl (Nat.le_of_ble_eq_true rfl) (ct_cp3_7 G (d + 5) I) (fun _ _ h => h) (fun v J h => ?_)
  obtain ⟨rfl, a1, a2, a3⟩ := h
  have hTJ : TX J c e := ⟨he, by rw [a3 1 (by decide)]; exact hT.2.1, fun i hi => by rw [a3 2 (by decide)]; exact hT.2.2 i hi⟩
  have hKJ : KD J (w, t, b) J := ⟨by rw [a1 0 (by decide)]; exact hw, by rw [a1 1 (by decide)]; exact ht, rfl, fun k hk => by have hk : k < t := hk; rw [a2 _ (by omega)]; exact hb k hk, fun _ _ _ _ => rfl, hw8, ht8⟩
  refine Rn.aload_n dX9_coast_11 rfl rfl ?_
  refine Rn.getR dX9_coast_12 fd_X9_51_8 (by first | rfl | exact gC0 (by assumption) | exact gL0 (by assumption)) rfl ?_
  refine Rn.callUx (As := []) dX9_coast_15 mu_X9_95_1 rfl rfl rfl rfl (Nat.le_of_ble_eq_true rfl) (kd_text G d J hTJ (by rw [a3 37 (by decide)]; exact h37) (w, t, b) hKJ) (fun _ _ h => h) (fun v J2 h => ?_)
  obtain ⟨K, q, rfl, hq, hr⟩ := h
  have hfr : ∀ (st : Cs), KD J st K → ∀ a, ¬ (7 ≤ a ∧ a ≤ 10) → K a = I a := fun st h a ha => by rw [h.2.2.2.2.1 a (by omega) (by omega) (by omega)]; exact a3 a ha
  rcases hr with ⟨hg, rfl, st, hK⟩ | ⟨st, n, hg, rfl, hK⟩
  · have f := hfr st hK
    refine Rn.istore_n dX9_coast_18 rfl (by decide) ?_
    refine Rn.aload_n dX9_coast_19 rfl rfl ?_
    refine Rn.iload_n dX9_coast_20 rfl rfl ?_
    refine Rn.callVp (As := [_]) dX9_coast_21 mv_X9_99 (by first | rfl | exact gC0 (by assumption) | exact gL0 (by assumption)) rfl rfl rfl (Nat.le_of_ble_eq_true rfl) (ct_note0 G (d + 5) _) ?_
    refine Rn.iload_n dX9_coast_24 rfl rfl ?_
    refine Rn.if_ne (tgt := 38) dX9_coast_25 (by decide) (fun h9 => absurd h9 (by decide)) (fun _ => ?_)
    exact Rn.throwT th_X9_103_105_107 dX9_coast_28 dX9_coast_31 dX9_coast_32 dX9_coast_34 dX9_coast_37 (⟨by rw [zup_at, upd_at], fun a h0 h1 h2 h3 => by rw [zup_ne _ _ h1, zup_ne _ _ h0, TQ5_ne h1]; exact f a (by omega), by rw [zup_ne _ _ (by decide), zup_at, upd_ne _ _ (by decide), TQ5_ne (by decide), f 0 (by decide)], Or.inl ⟨q, by omega, hg, rfl, by rw [zup_ne _ _ (by decide), zup_at, upd_at]; rfl, by rw [zup_ne _ _ (by decide), zup_ne _ _ (by decide), TQ5_ne (by decide)]; exact f 44 (by decide), fun a h1 h2 => by rw [zup_ne _ _ (by omega), zup_ne _ _ (by omega), TQ5_ne (by omega)]; exact f a (by omega)⟩⟩)
  · have f := hfr st hK
    have h72 : K 7 2 = I 3 2 := by rw [hK.2.2.1]; exact a1 2 (by decide)
    refine Rn.istore_n dX9_coast_18 rfl (by decide) ?_
    refine Rn.aload_n dX9_coast_19 rfl rfl ?_
    refine Rn.iload_n dX9_coast_20 rfl rfl ?_
    refine Rn.callVp (As := [_]) dX9_coast_21 mv_X9_99 (by first | rfl | exact gC0 (by assumption) | exact gL0 (by assumption)) rfl rfl rfl (Nat.le_of_ble_eq_true rfl) (ct_note1 G (d + 5) _) ?_
    refine Rn.iload_n dX9_coast_24 rfl rfl ?_
    refine Rn.if_ne (tgt := 38) dX9_coast_25 (by decide) (fun _ => ?_) (fun h9 => absurd h9 (by decide))
    refine Rn.aload_n dX9_coast_38 rfl rfl ?_
    refine Rn.getR dX9_coast_39 fd_X9_19_8 (by first | rfl | exact gC0 (by assumption) | exact gL0 (by assumption)) rfl ?_
    refine Rn.getI dX9_coast_42 fd_X9_110_0 (by first | rfl | exact gC0 (by assumption) | exact gL0 (by assumption)) rfl ?_
    refine Rn.topI (I 3 2) (by rw [zup_ne _ _ (by decide), zup_ne _ _ (by decide), TQ5_ne (by decide), f 3 (by decide)]) ?_
    refine Rn.bipush (v := (nI 12)) dX9_coast_45 rfl ?_
    refine Rn.icmp_lt (tgt := 60) dX9_coast_47 (by decide) (fun h4 => ?_) (fun h4 => ?_)
    · refine Rn.aload_n dX9_coast_60 rfl rfl ?_
      refine Rn.getR dX9_coast_61 fd_X9_23_8 (by first | rfl | exact gC0 (by assumption) | exact gL0 (by assumption)) rfl ?_
      refine Rn.dup dX9_coast_64 rfl ?_
      refine Rn.getI dX9_coast_65 fd_X9_110_0 (by first | rfl | exact gC0 (by assumption) | exact gL0 (by assumption)) rfl ?_
      refine Rn.topI (I 3 2) (by rw [zup_ne _ _ (by decide), zup_ne _ _ (by decide), TQ5_ne (by decide)]; exact h72) ?_
      refine Rn.iconst (v := (nI 1)) dX9_coast_68 rfl ?_
      refine Rn.iadd dX9_coast_69 ?_
      refine Rn.putI dX9_coast_70 fp_X9_110_0 (by first | rfl | exact gC0 (by assumption) | exact gL0 (by assumption)) rfl ?_
      refine Rn.aload_n dX9_coast_73 rfl rfl ?_
      refine Rn.getR dX9_coast_74 fd_X9_19_8 (by first | rfl | exact gC0 (by assumption) | exact gL0 (by assumption)) rfl ?_
      refine Rn.aload_n dX9_coast_77 rfl rfl ?_
      refine Rn.getR dX9_coast_78 fd_X9_23_8 (by first | rfl | exact gC0 (by assumption) | exact gL0 (by assumption)) rfl ?_
      refine Rn.callV (As := [_]) dX9_coast_81 mv_X9_91 (by first | rfl | exact gC0 (by assumption) | exact gL0 (by assumption)) rfl rfl rfl (Nat.le_of_ble_eq_true rfl) (ct_cp7_3 G (d + 5) _) (fun _ _ h => h) (fun v J h => ?_)
      obtain ⟨rfl, c1, c2, c3⟩ := h
      have e32 : J 3 2 = I 3 2 + nI 1 := by rw [c1 2 (by decide), zup_at, upd_at]
      refine Rn.aload_n dX9_coast_84 rfl rfl ?_
      refine Rn.getR dX9_coast_85 fd_X9_76_8 (by first | rfl | exact gC0 (by assumption) | exact gL0 (by assumption)) rfl ?_
      refine Rn.callVp (As := []) dX9_coast_88 mv_X9_118 (by first | rfl | exact gC0 (by assumption) | exact gL0 (by assumption)) rfl rfl rfl (Nat.le_of_ble_eq_true rfl) (ct_forget5 G (d + 5) _) ?_
      refine Rn.aload_n dX9_coast_91 rfl rfl ?_
      refine Rn.getR dX9_coast_92 fd_X9_19_8 (by first | rfl | exact gC0 (by assumption) | exact gL0 (by assumption)) rfl ?_
      refine Rn.getI dX9_coast_95 fd_X9_110_0 (by first | rfl | exact gC0 (by assumption) | exact gL0 (by assumption)) rfl ?_
      refine Rn.topI (I 3 2 + nI 1) (by rw [zup_ne _ _ (by decide)]; exact e32) ?_
      exact Rn.iret dX9_coast_98 rfl (⟨by rw [zup_ne _ _ (by decide), c3 1 (by decide), zup_ne _ _ (by decide), zup_at, upd_at], fun a h0 h1 h2 h3 => by rw [zup_ne _ _ h3, c3 a (by omega), zup_ne _ _ (by omega), zup_ne _ _ h1, zup_ne _ _ h0, TQ5_ne h1]; exact f a (by omega), by rw [zup_ne _ _ (by decide), c3 0 (by decide), zup_ne _ _ (by decide), zup_ne _ _ (by decide), zup_at, upd_ne _ _ (by decide), TQ5_ne (by decide), f 0 (by decide)], Or.inr (Or.inr ⟨st, n, hg, h4, rfl, by rw [zup_ne _ _ (by decide), c3 0 (by decide), zup_ne _ _ (by decide), zup_ne _ _ (by decide), zup_at, upd_at], by rw [zup_at, upd_at], by rw [zup_at, upd_ne _ _ (by decide), c3 44 (by decide), zup_ne _ _ (by decide), zup_ne _ _ (by decide), zup_ne _ _ (by decide), TQ5_ne (by decide), f 44 (by decide)], by rw [zup_ne _ _ (by decide), c1 0 (by decide), zup_at, upd_ne _ _ (by decide), zup_ne _ _ (by decide), zup_ne _ _ (by decide), TQ5_ne (by decide)]; exact hK.1, by rw [zup_ne _ _ (by decide), c1 1 (by decide), zup_at, upd_ne _ _ (by decide), zup_ne _ _ (by decide), zup_ne _ _ (by decide), TQ5_ne (by decide)]; exact hK.2.1, by rw [zup_ne _ _ (by decide)]; exact e32, fun k hk => by have := hK.2.2.2.2.2.2; rw [zup_ne _ _ (by decide), c2 _ (by omega), zup_ne _ _ (by decide), zup_ne _ _ (by decide), zup_ne _ _ (by decide), TQ5_ne (by decide)]; exact hK.2.2.2.1 k hk⟩)⟩)
    · exact Rn.throwT th_X9_113_115_117 dX9_coast_50 dX9_coast_53 dX9_coast_54 dX9_coast_56 dX9_coast_59 (⟨by rw [zup_at, upd_at], fun a h0 h1 h2 h3 => by rw [zup_ne _ _ h1, zup_ne _ _ h0, TQ5_ne h1]; exact f a (by omega), by rw [zup_ne _ _ (by decide), zup_at, upd_ne _ _ (by decide), TQ5_ne (by decide), f 0 (by decide)], Or.inr (Or.inl ⟨st, n, hg, h4, rfl, by rw [zup_ne _ _ (by decide), zup_at, upd_at], by rw [zup_ne _ _ (by decide), zup_ne _ _ (by decide), TQ5_ne (by decide)]; exact f 44 (by decide), fun a h1 h2 => by rw [zup_ne _ _ (by omega), zup_ne _ _ (by omega), TQ5_ne (by omega)]; exact f a (by omega)⟩)⟩)
end Kch
