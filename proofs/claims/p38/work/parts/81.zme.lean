theorem dX10_coast_90 : decode cX10_coast 90 = .ok (.iconst 0, 1) := by decide +kernel
theorem dX10_coast_91 : decode cX10_coast 91 = .ok (.istore_n 2, 1) := by decide +kernel
theorem dX10_coast_117 : decode cX10_coast 117 = .ok (.iconst 0, 1) := by decide +kernel
theorem dX10_coast_118 : decode cX10_coast 118 = .ok (.ireturn, 1) := by decide +kernel
theorem dX10_coast_0 : decode cX10_coast 0 = .ok (.iconst 0, 1) := by decide +kernel
theorem dX10_coast_1 : decode cX10_coast 1 = .ok (.istore_n 1, 1) := by decide +kernel
theorem dX10_coast_27 : decode cX10_coast 27 = .ok (.aload_n 0, 1) := by decide +kernel
theorem dX10_coast_28 : decode cX10_coast 28 = .ok (.iconst 1, 1) := by decide +kernel
theorem dX10_coast_29 : decode cX10_coast 29 = .ok (.invokevirtual 237, 3) := by decide +kernel
theorem dX10_coast_32 : decode cX10_coast 32 = .ok (.istore_n 1, 1) := by decide +kernel
theorem dX10_coast_33 : decode cX10_coast 33 = .ok (.aload_n 0, 1) := by decide +kernel
theorem dX10_coast_34 : decode cX10_coast 34 = .ok (.iload_n 1, 1) := by decide +kernel
theorem dX10_coast_35 : decode cX10_coast 35 = .ok (.ifCond .ge 10, 3) := by decide +kernel
theorem dX10_coast_38 : decode cX10_coast 38 = .ok (.aload_n 0, 1) := by decide +kernel
theorem dX10_coast_39 : decode cX10_coast 39 = .ok (.getfield 99, 3) := by decide +kernel
theorem dX10_coast_42 : decode cX10_coast 42 = .ok (.goto 4, 3) := by decide +kernel
theorem dX10_coast_46 : decode cX10_coast 46 = .ok (.putfield 33, 3) := by decide +kernel
theorem dX10_coast_49 : decode cX10_coast 49 = .ok (.aload_n 0, 1) := by decide +kernel
theorem dX10_coast_50 : decode cX10_coast 50 = .ok (.iload_n 1, 1) := by decide +kernel
theorem dX10_coast_51 : decode cX10_coast 51 = .ok (.ifCond .ge 7, 3) := by decide +kernel
theorem dX10_coast_54 : decode cX10_coast 54 = .ok (.iconst 1, 1) := by decide +kernel
theorem dX10_coast_55 : decode cX10_coast 55 = .ok (.goto 4, 3) := by decide +kernel
theorem dX10_coast_59 : decode cX10_coast 59 = .ok (.iconst 1, 1) := by decide +kernel
theorem dX10_coast_60 : decode cX10_coast 60 = .ok (.invokevirtual 241, 3) := by decide +kernel
theorem dX10_coast_63 : decode cX10_coast 63 = .ok (.ifCond .ne 27, 3) := by decide +kernel
theorem dX10_coast_45 : decode cX10_coast 45 = .ok (.iconst (-1), 1) := by decide +kernel
theorem dX10_coast_58 : decode cX10_coast 58 = .ok (.iconst 0, 1) := by decide +kernel
theorem dX10_coast_66 : decode cX10_coast 66 = .ok (.aload_n 0, 1) := by decide +kernel
theorem dX10_coast_67 : decode cX10_coast 67 = .ok (.aload_n 0, 1) := by decide +kernel
theorem dX10_coast_68 : decode cX10_coast 68 = .ok (.getfield 13, 3) := by decide +kernel
theorem dX10_coast_71 : decode cX10_coast 71 = .ok (.iconst 2, 1) := by decide +kernel
theorem dX10_coast_72 : decode cX10_coast 72 = .ok (.iaload, 1) := by decide +kernel
theorem dX10_coast_73 : decode cX10_coast 73 = .ok (.bipush 12, 2) := by decide +kernel
theorem dX10_coast_75 : decode cX10_coast 75 = .ok (.if_icmp .ne 7, 3) := by decide +kernel
theorem dX10_coast_82 : decode cX10_coast 82 = .ok (.iconst 0, 1) := by decide +kernel
theorem dX10_coast_83 : decode cX10_coast 83 = .ok (.iconst 2, 1) := by decide +kernel
theorem dX10_coast_84 : decode cX10_coast 84 = .ok (.invokevirtual 241, 3) := by decide +kernel
theorem dX10_coast_87 : decode cX10_coast 87 = .ok (.ifCond .eq 32, 3) := by decide +kernel
theorem dX10_coast_119 : decode cX10_coast 119 = .ok (.aload_n 0, 1) := by decide +kernel
theorem dX10_coast_120 : decode cX10_coast 120 = .ok (.getfield 13, 3) := by decide +kernel
theorem dX10_coast_123 : decode cX10_coast 123 = .ok (.iconst 2, 1) := by decide +kernel
theorem dX10_coast_124 : decode cX10_coast 124 = .ok (.dup2, 1) := by decide +kernel
theorem dX10_coast_125 : decode cX10_coast 125 = .ok (.iaload, 1) := by decide +kernel
theorem dX10_coast_126 : decode cX10_coast 126 = .ok (.iconst 1, 1) := by decide +kernel
theorem dX10_coast_127 : decode cX10_coast 127 = .ok (.iadd, 1) := by decide +kernel
theorem dX10_coast_128 : decode cX10_coast 128 = .ok (.iastore, 1) := by decide +kernel
theorem dX10_coast_129 : decode cX10_coast 129 = .ok (.aload_n 0, 1) := by decide +kernel
theorem dX10_coast_130 : decode cX10_coast 130 = .ok (.iconst 0, 1) := by decide +kernel
theorem dX10_coast_131 : decode cX10_coast 131 = .ok (.putfield 58, 3) := by decide +kernel
theorem dX10_coast_134 : decode cX10_coast 134 = .ok (.aload_n 0, 1) := by decide +kernel
theorem dX10_coast_135 : decode cX10_coast 135 = .ok (.getfield 13, 3) := by decide +kernel
theorem dX10_coast_138 : decode cX10_coast 138 = .ok (.iconst 2, 1) := by decide +kernel
theorem dX10_coast_139 : decode cX10_coast 139 = .ok (.iaload, 1) := by decide +kernel
theorem dX10_coast_140 : decode cX10_coast 140 = .ok (.ireturn, 1) := by decide +kernel
theorem dX10_coast_78 : decode cX10_coast 78 = .ok (.iconst 1, 1) := by decide +kernel
theorem dX10_coast_79 : decode cX10_coast 79 = .ok (.goto 4, 3) := by decide +kernel
/-! the reference's coast itself -/
section Rce
variable (G : Gx) (d : Nat) (I : Hi) {c : Nat → Nat} {e : Nat}
theorem cf_fail (hX : XM I) (K : Hi) (hB : BX K) (h96 : K 96 = I 96) (h97 : ∀ j, j < 1226 → K 97 j = I 95 j) (h6 : K 94 6 = I 94 6) (h9 : K 94 9 = nI 0) (hf : ∀ c, c ≠ 94 → c ≠ 95 → c ≠ 97 → K c = I c) (g : Nat ⊕ (Cs × Nat)) (hr : (∃ x, x ≤ 400 ∧ g = .inl x ∧ K 94 0 = nI 1 ∧ K 94 14 = nI x ∧ K 94 7 = I 94 7) ∨ (∃ (st : Cs) (n : Nat), g = .inr (st, n) ∧ I 95 2 = nI 12 ∧ K 94 0 = nI 2 ∧ K 94 14 = -1 ∧ K 94 7 = I 94 7)) (x1 x2 : Option Value) : Rn G GAM mX10_coast (kM G GAM (LC5 I g)) d 0 90 [some (.ref 94), x1, x2] [] K := by
  refine Rn.iconst (v := (nI 0)) dX10_coast_90 rfl ?_
  refine Rn.istore_n dX10_coast_91 rfl (by decide) ?_
  refine Rn.hpp _ (cp_start K 95 (K 97)) (lp_coa2 G d K _ ?_ 1226 0 rfl)
  have hw : ∀ j, j < 1226 → (zset K 95 (cp (K 97) (K 95) 1226)) 95 j = I 95 j := fun j hj => by
    rw [zset_at]; simp only [cp]; rw [if_pos hj]; exact h97 j hj
  have hn : ∀ j, (zset K 95 (cp (K 97) (K 95) 1226)) 94 j = K 94 j := fun j => by rw [zset_ne _ _ (by decide)]
  have hr2 : (∃ x, x ≤ 400 ∧ g = .inl x ∧ (zset K 95 (cp (K 97) (K 95) 1226)) 94 0 = nI 1 ∧ (zset K 95 (cp (K 97) (K 95) 1226)) 94 14 = nI x ∧ (zset K 95 (cp (K 97) (K 95) 1226)) 94 7 = I 94 7 ∧ (∀ j, j < 1226 → (zset K 95 (cp (K 97) (K 95) 1226)) 95 j = I 95 j)) ∨ (∃ (st : Cs) (n : Nat), g = .inr (st, n) ∧ I 95 2 = nI 12 ∧ (zset K 95 (cp (K 97) (K 95) 1226)) 94 0 = nI 2 ∧ (zset K 95 (cp (K 97) (K 95) 1226)) 94 14 = -1 ∧ (zset K 95 (cp (K 97) (K 95) 1226)) 94 7 = I 94 7 ∧ (∀ j, j < 1226 → (zset K 95 (cp (K 97) (K 95) 1226)) 95 j = I 95 j)) := by
    rcases hr with ⟨x, b1, b2, b3, b4, b5⟩ | ⟨st, n, b1, b2, b3, b4, b5⟩
    · exact Or.inl ⟨x, b1, b2, (hn 0).trans b3, (hn 14).trans b4, (hn 7).trans b5, hw⟩
    · exact Or.inr ⟨st, n, b1, b2, (hn 0).trans b3, (hn 14).trans b4, (hn 7).trans b5, hw⟩
  refine Rn.iconst (v := (nI 0)) dX10_coast_117 rfl ?_
  exact Rn.iret dX10_coast_118 rfl (⟨⟨_, rfl⟩, BX.set hB (fun j => BX.copy hB (by decide) (by decide) (by decide) (by decide) j), ⟨hX.1.of (fun j _ h => hw j h), by rw [zset_ne _ _ (by decide), h96]; exact hX.2⟩, (hn 6).trans h6, (hn 9).trans h9, fun c a1 a2 a3 => by rw [zset_ne _ _ a2]; exact hf c a1 a2 a3, hr2.imp id Or.inl⟩)
theorem lw_coast5 (st : Cs) (hB : BX I) (hX : XM I) (hT : e ≤ 400 ∧ I 94 9 = nI e ∧ ∀ i, i < e → c i < 256 ∧ I 100 i = sb (c i)) (hV : WV (I 95) st.1 st.2.1 st.2.2 (I 95)) : Ct G GAM mX10_coast (d + 10) 0 [.ref 94] I (LC5 I (cCoast c e st)) := by
  have he := hT.1
  refine Ct.mk [some (.ref 94), none, none] ?_
  refine Rn.iconst (v := (nI 0)) dX10_coast_0 rfl ?_
  refine Rn.istore_n dX10_coast_1 rfl (by decide) ?_
  refine Rn.hpp _ (cp_start I 97 (I 95)) (lp_coa1 G (d + 10) I _ ?_ 1226 0 rfl)
  have hB1 : BX (zset I 97 (cp (I 95) (I 97) 1226)) := BX.set hB (fun j => BX.copy hB (by decide) (by decide) (by decide) (by decide) j)
  have h97 : ∀ j, j < 1226 → (zset I 97 (cp (I 95) (I 97) 1226)) 97 j = I 95 j := fun j hj => by rw [zset_at]; simp only [cp]; rw [if_pos hj]
  have hf1 : ∀ c, c ≠ 97 → (zset I 97 (cp (I 95) (I 97) 1226)) c = I c := fun c h => zset_ne _ _ h
  generalize zset I 97 (cp (I 95) (I 97) 1226) = I1 at hB1 h97 hf1
  have e94 := hf1 94 (by decide)
  have e95 := hf1 95 (by decide)
  refine Rn.aload_n dX10_coast_27 rfl rfl ?_
  refine Rn.iconst (v := (nI 1)) dX10_coast_28 rfl ?_
  refine Rn.callV (As := [_]) dX10_coast_29 mv_X10_237 (by first | rfl | exact gC0 (by assumption) | exact gL0 (by assumption)) rfl rfl rfl (Nat.le_of_ble_eq_true rfl) (ct_rdC (c := c) (e := e) G d I1 st ⟨he, by rw [e94]; exact hT.2.1, fun i hi => by rw [hf1 100 (by decide)]; exact hT.2.2 i hi⟩ hB1 (by rw [e95]; exact hV)) (fun _ _ h => h) (fun v J h => ?_)
  rw [e95] at h
  obtain ⟨p, b, q, s, V, rfl, hp, hb, hr⟩ := h
  have hbox : ∀ (y : Int32) (z : Int32) (j : Nat), inIv (hxB 94 j) (upd (upd (PA (HA I1) p b q s) 14 y) 0 z j) := fun y z => box94 (hB1 94 6) (hB1 94 7) (iv_nI (n := 400) (k := 0) (by decide) (by decide)) (iv_nI (n := 400) (k := p) (by omega) (by decide)) (hB1 94 9) (iv_nI (n := 400) (k := b) (by omega) (by decide))
  have key : ∀ (y z : Int32) (w' t' : Nat) (b' : Nat → Int32), WV (I 95) w' t' b' V → BX (zset (zset I1 94 (upd (upd (PA (HA I1) p b q s) 14 y) 0 z)) 95 V) := fun y z w' t' b' h => BX.set (BX.set hB1 (hbox y z)) (box95 h.1)
  rcases hr with ⟨rfl, hg, w', t', b', hW⟩ | ⟨st2, n, rfl, hn, hg, hW⟩
  · refine Rn.hpp _ (PS_HI I1 p b q s V) ?_
    refine Rn.istore_n dX10_coast_32 rfl (by decide) ?_
    refine Rn.aload_n dX10_coast_33 rfl rfl ?_
    refine Rn.iload_n dX10_coast_34 rfl rfl ?_
    refine Rn.if_ge (tgt := 45) dX10_coast_35 (by decide) (fun h9 => absurd h9 (by decide)) (fun _ => ?_)
    refine Rn.aload_n dX10_coast_38 rfl rfl ?_
    refine Rn.getI dX10_coast_39 fd_X10_99_9 (by first | rfl | exact gC0 (by assumption) | exact gL0 (by assumption)) rfl ?_
    refine Rn.topI (nI b) (by rfl) ?_
    refine Rn.goto 46 dX10_coast_42 (by decide) ?_
    refine Rn.putI dX10_coast_46 fp_X10_33_9 (by first | rfl | exact gC0 (by assumption) | exact gL0 (by assumption)) rfl ?_
    refine Rn.hpp _ (zup_set2 _ _ _ _ _) ?_
    refine Rn.aload_n dX10_coast_49 rfl rfl ?_
    refine Rn.iload_n dX10_coast_50 rfl rfl ?_
    refine Rn.if_ge (tgt := 58) dX10_coast_51 (by decide) (fun h9 => absurd h9 (by decide)) (fun _ => ?_)
    refine Rn.iconst (v := (nI 1)) dX10_coast_54 rfl ?_
    refine Rn.goto 59 dX10_coast_55 (by decide) ?_
    refine Rn.iconst (v := (nI 1)) dX10_coast_59 rfl ?_
    refine Rn.callVp (As := [_, _]) dX10_coast_60 mv_X10_241 (by first | rfl | exact gC0 (by assumption) | exact gL0 (by assumption)) rfl rfl rfl (Nat.le_of_ble_eq_true rfl) (ct_thI1 G _ _ _) ?_
    refine Rn.hpp _ (zup_set2 _ _ _ _ _) ?_
    refine Rn.if_ne (tgt := 90) dX10_coast_63 (by decide) (fun _ => ?_) (fun h9 => absurd h9 (by decide))
    exact cf_fail G (d + 10) I hX _ (key _ _ w' t' b' hW) (by rw [zset_ne _ _ (by decide), zset_ne _ _ (by decide), hf1 96 (by decide)]) (fun j hj => by rw [zset_ne _ _ (by decide), zset_ne _ _ (by decide)]; exact h97 j hj) (by rw [zset_ne _ _ (by decide), zset_at, ← e94]; rfl) (by rw [zset_ne _ _ (by decide), zset_at]; rfl) (fun c a1 a2 a3 => by rw [zset_ne _ _ a2, zset_ne _ _ a1, hf1 c a3]) _ (Or.inl ⟨b, by omega, hg, by rw [zset_ne _ _ (by decide), zset_at]; rfl, by rw [zset_ne _ _ (by decide), zset_at]; rfl, by rw [zset_ne _ _ (by decide), zset_at, ← e94]; rfl⟩) _ _
  · refine Rn.hpp _ (PS_HI I1 p b q s V) ?_
    refine Rn.istore_n dX10_coast_32 rfl (by decide) ?_
    refine Rn.aload_n dX10_coast_33 rfl rfl ?_
    refine Rn.iload_n dX10_coast_34 rfl rfl ?_
    refine Rn.if_geN dX10_coast_35 45 ?_
    refine Rn.iconst (v := (-1)) dX10_coast_45 rfl ?_
    refine Rn.putI dX10_coast_46 fp_X10_33_9 (by first | rfl | exact gC0 (by assumption) | exact gL0 (by assumption)) rfl ?_
    refine Rn.hpp _ (zup_set2 _ _ _ _ _) ?_
    refine Rn.aload_n dX10_coast_49 rfl rfl ?_
    refine Rn.iload_n dX10_coast_50 rfl rfl ?_
    refine Rn.if_geN dX10_coast_51 58 ?_
    refine Rn.iconst (v := (nI 0)) dX10_coast_58 rfl ?_
    refine Rn.iconst (v := (nI 1)) dX10_coast_59 rfl ?_
    refine Rn.callVp (As := [_, _]) dX10_coast_60 mv_X10_241 (by first | rfl | exact gC0 (by assumption) | exact gL0 (by assumption)) rfl rfl rfl (Nat.le_of_ble_eq_true rfl) (ct_thI0 G _ _ _) ?_
    have h952 : V 2 = I 95 2 := hW.2.2.2.1
    refine Rn.if_ne (tgt := 90) dX10_coast_63 (by decide) (fun h9 => absurd h9 (by decide)) (fun _ => ?_)
    refine Rn.aload_n dX10_coast_66 rfl rfl ?_
    refine Rn.aload_n dX10_coast_67 rfl rfl ?_
    refine Rn.getR dX10_coast_68 fd_X10_13_9 (by first | rfl | exact gC0 (by assumption) | exact gL0 (by assumption)) rfl ?_
    refine Rn.iconst (v := (nI 2)) dX10_coast_71 rfl ?_
    refine Rn.ialdN dX10_coast_72 (by first | rfl | exact gC1 (by assumption) | exact gC2 (by assumption) | exact gC3 (by assumption) | exact gL1 (by assumption) | exact gL2 (by assumption) | exact gL3 (by assumption) | exact gL4 (by assumption) | exact gL5 (by assumption) | exact gL6 (by assumption)) ?_
    refine Rn.topI (I 95 2) (by rw [zset_at]; exact h952) ?_
    refine Rn.bipush (v := (nI 12)) dX10_coast_73 rfl ?_
    refine Rn.icmp_ne (tgt := 82) dX10_coast_75 (by decide) (fun h2 => ?_) (fun h2 => ?_)
    · refine Rn.iconst (v := (nI 0)) dX10_coast_82 rfl ?_
      refine Rn.iconst (v := (nI 2)) dX10_coast_83 rfl ?_
      refine Rn.callVp (As := [_, _]) dX10_coast_84 mv_X10_241 (by first | rfl | exact gC0 (by assumption) | exact gL0 (by assumption)) rfl rfl rfl (Nat.le_of_ble_eq_true rfl) (ct_thI0 G _ _ _) ?_
      have h9 : (zset (zset I1 94 (upd (PA (HA I1) p b q s) 14 (-1))) 95 V) = (zset (zset I1 94 (upd (upd (PA (HA I1) p b q s) 14 (-1)) 0 (nI 0))) 95 V) := by
        congr 2
        funext j
        by_cases z : j = 0
        · subst z; rw [upd_at]; rfl
        · rw [upd_ne _ _ z]
      refine Rn.hpp _ h9 ?_
      refine Rn.if_eq (tgt := 119) dX10_coast_87 (by decide) (fun _ => ?_) (fun h9 => absurd h9 (by decide))
      refine Rn.aload_n dX10_coast_119 rfl rfl ?_
      refine Rn.getR dX10_coast_120 fd_X10_13_9 (by first | rfl | exact gC0 (by assumption) | exact gL0 (by assumption)) rfl ?_
      refine Rn.iconst (v := (nI 2)) dX10_coast_123 rfl ?_
      refine Rn.dup2 dX10_coast_124 rfl rfl ?_
      refine Rn.ialdN dX10_coast_125 (by first | rfl | exact gC1 (by assumption) | exact gC2 (by assumption) | exact gC3 (by assumption) | exact gL1 (by assumption) | exact gL2 (by assumption) | exact gL3 (by assumption) | exact gL4 (by assumption) | exact gL5 (by assumption) | exact gL6 (by assumption)) ?_
      refine Rn.topI (I 95 2) (by rw [zset_at]; exact h952) ?_
      refine Rn.iconst (v := (nI 1)) dX10_coast_126 rfl ?_
      refine Rn.iadd dX10_coast_127 ?_
      refine Rn.iastN dX10_coast_128 (by first | rfl | exact gC1 (by assumption) | exact gC2 (by assumption) | exact gC3 (by assumption) | exact gL1 (by assumption) | exact gL2 (by assumption) | exact gL3 (by assumption) | exact gL4 (by assumption) | exact gL5 (by assumption) | exact gL6 (by assumption)) ?_
      refine Rn.hpp _ (zup_zset _ _ _ _ _) ?_
      refine Rn.aload_n dX10_coast_129 rfl rfl ?_
      refine Rn.iconst (v := (nI 0)) dX10_coast_130 rfl ?_
      refine Rn.putI dX10_coast_131 fp_X10_58_9 (by first | rfl | exact gC0 (by assumption) | exact gL0 (by assumption)) rfl ?_
      refine Rn.hpp _ (zup_set2 _ _ _ _ _) ?_
      refine Rn.aload_n dX10_coast_134 rfl rfl ?_
      refine Rn.getR dX10_coast_135 fd_X10_13_9 (by first | rfl | exact gC0 (by assumption) | exact gL0 (by assumption)) rfl ?_
      refine Rn.iconst (v := (nI 2)) dX10_coast_138 rfl ?_
      refine Rn.ialdN dX10_coast_139 (by first | rfl | exact gC1 (by assumption) | exact gC2 (by assumption) | exact gC3 (by assumption) | exact gL1 (by assumption) | exact gL2 (by assumption) | exact gL3 (by assumption) | exact gL4 (by assumption) | exact gL5 (by assumption) | exact gL6 (by assumption)) ?_
      refine Rn.topI (I 95 2 + nI 1) (by rw [zset_at, upd_at]) ?_
      have hb9 : ∀ j, inIv (hxB 94 j) (upd (upd (upd (PA (HA I1) p b q s) 14 (-1)) 0 (nI 0)) 7 (nI 0) j) := box94 (hB1 94 6) (iv_nI (n := 12) (k := 0) (by decide) (by decide)) (iv_nI (n := 400) (k := 0) (by decide) (by decide)) (iv_nI (n := 400) (k := p) (by omega) (by decide)) (hB1 94 9) (iv_nI (n := 400) (k := b) (by omega) (by decide))
      have hw9 : ∀ j, j < 377 → inIv (wbx j) (upd V 2 (I 95 2 + nI 1) j) := fun j hj => by
        by_cases z : j = 2
        · subst z; exact inIv_F _
        · rw [upd_ne _ _ z]; exact hW.1 j hj
      exact Rn.iret dX10_coast_140 rfl (⟨⟨_, rfl⟩, BX.set (BX.set hB1 hb9) (box95 hw9), ⟨by rw [zset_at]; exact hX.1.of (fun j h1 _ => by rw [upd_ne _ _ (by omega)]; exact hW.2.2.2.2.2.1 j h1), by rw [zset_ne _ _ (by decide), zset_ne _ _ (by decide), hf1 96 (by decide)]; exact hX.2⟩, by rw [zset_ne _ _ (by decide), zset_at, ← e94]; rfl, by rw [zset_ne _ _ (by decide), zset_at]; rfl, fun c a1 a2 a3 => by rw [zset_ne _ _ a2, zset_ne _ _ a1, hf1 c a3], Or.inr (Or.inr ⟨st2, n, hg, h2, rfl, by rw [zset_ne _ _ (by decide), zset_at]; rfl, by rw [zset_ne _ _ (by decide), zset_at]; rfl, by rw [zset_ne _ _ (by decide), zset_at]; rfl, by rw [zset_at, upd_ne _ _ (by decide)]; exact hW.2.1, by rw [zset_at, upd_ne _ _ (by decide)]; exact hW.2.2.1, by rw [zset_at, upd_at], fun k hk => by rw [zset_at, upd_ne _ _ (by omega)]; exact hW.2.2.2.2.2.2.1 k hk, hW.2.2.2.2.2.2.2.1, hW.2.2.2.2.2.2.2.2⟩)⟩)
    · refine Rn.iconst (v := (nI 1)) dX10_coast_78 rfl ?_
      refine Rn.goto 83 dX10_coast_79 (by decide) ?_
      refine Rn.iconst (v := (nI 2)) dX10_coast_83 rfl ?_
      refine Rn.callVp (As := [_, _]) dX10_coast_84 mv_X10_241 (by first | rfl | exact gC0 (by assumption) | exact gL0 (by assumption)) rfl rfl rfl (Nat.le_of_ble_eq_true rfl) (ct_thI1 G _ _ _) ?_
      refine Rn.hpp _ (zup_set2 _ _ _ _ _) ?_
      refine Rn.if_eq (tgt := 119) dX10_coast_87 (by decide) (fun h9 => absurd h9 (by decide)) (fun _ => ?_)
      exact cf_fail G (d + 10) I hX _ (key _ _ _ _ _ hW) (by rw [zset_ne _ _ (by decide), zset_ne _ _ (by decide), hf1 96 (by decide)]) (fun j hj => by rw [zset_ne _ _ (by decide), zset_ne _ _ (by decide)]; exact h97 j hj) (by rw [zset_ne _ _ (by decide), zset_at, ← e94]; rfl) (by rw [zset_ne _ _ (by decide), zset_at]; rfl) (fun c a1 a2 a3 => by rw [zset_ne _ _ a2, zset_ne _ _ a1, hf1 c a3]) _ (Or.inr ⟨st2, n, hg, h2, by rw [zset_ne _ _ (by decide), zset_at]; rfl, by rw [zset_ne _ _ (by decide), zset_at]; rfl, by rw [zset_ne _ _ (by decide), zset_at, ← e94]; rfl⟩) _ _
end Rce
