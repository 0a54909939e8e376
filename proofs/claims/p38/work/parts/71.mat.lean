theorem dX10_match_111 : decode cX10_match 111 = .ok (.aload_n 0, 1) := by decide +kernel
theorem dX10_match_112 : decode cX10_match 112 = .ok (.iload 8, 2) := by decide +kernel
theorem dX10_match_114 : decode cX10_match 114 = .ok (.iload 6, 2) := by decide +kernel
theorem dX10_match_116 : decode cX10_match 116 = .ok (.aload_n 0, 1) := by decide +kernel
theorem dX10_match_117 : decode cX10_match 117 = .ok (.getfield 45, 3) := by decide +kernel
theorem dX10_match_120 : decode cX10_match 120 = .ok (.iload 8, 2) := by decide +kernel
theorem dX10_match_122 : decode cX10_match 122 = .ok (.iaload, 1) := by decide +kernel
theorem dX10_match_123 : decode cX10_match 123 = .ok (.iload 7, 2) := by decide +kernel
theorem dX10_match_125 : decode cX10_match 125 = .ok (.invokevirtual 381, 3) := by decide +kernel
theorem dX10_match_128 : decode cX10_match 128 = .ok (.aload_n 0, 1) := by decide +kernel
theorem dX10_match_129 : decode cX10_match 129 = .ok (.getfield 51, 3) := by decide +kernel
theorem dX10_match_132 : decode cX10_match 132 = .ok (.iload 8, 2) := by decide +kernel
theorem dX10_match_134 : decode cX10_match 134 = .ok (.iload 6, 2) := by decide +kernel
theorem dX10_match_136 : decode cX10_match 136 = .ok (.invokestatic 378, 3) := by decide +kernel
theorem dX10_match_139 : decode cX10_match 139 = .ok (.iaload, 1) := by decide +kernel
theorem dX10_match_140 : decode cX10_match 140 = .ok (.if_icmp .eq 9, 3) := by decide +kernel
theorem dX10_match_143 : decode cX10_match 143 = .ok (.iinc 7 1, 3) := by decide +kernel
theorem dX10_match_146 : decode cX10_match 146 = .ok (.goto (-35), 3) := by decide +kernel
theorem dX10_match_102 : decode cX10_match 102 = .ok (.iload 8, 2) := by decide +kernel
theorem dX10_match_104 : decode cX10_match 104 = .ok (.iload_n 2, 1) := by decide +kernel
theorem dX10_match_105 : decode cX10_match 105 = .ok (.if_icmp .gt 59, 3) := by decide +kernel
theorem dX10_match_108 : decode cX10_match 108 = .ok (.iconst 0, 1) := by decide +kernel
theorem dX10_match_109 : decode cX10_match 109 = .ok (.istore 7, 2) := by decide +kernel
theorem dX10_match_149 : decode cX10_match 149 = .ok (.iload 6, 2) := by decide +kernel
theorem dX10_match_151 : decode cX10_match 151 = .ok (.iconst 1, 1) := by decide +kernel
theorem dX10_match_152 : decode cX10_match 152 = .ok (.iload 7, 2) := by decide +kernel
theorem dX10_match_154 : decode cX10_match 154 = .ok (.ishl, 1) := by decide +kernel
theorem dX10_match_155 : decode cX10_match 155 = .ok (.ior, 1) := by decide +kernel
theorem dX10_match_156 : decode cX10_match 156 = .ok (.istore 6, 2) := by decide +kernel
theorem dX10_match_158 : decode cX10_match 158 = .ok (.iinc 8 1, 3) := by decide +kernel
theorem dX10_match_161 : decode cX10_match 161 = .ok (.goto (-59), 3) := by decide +kernel
theorem dX10_match_0 : decode cX10_match 0 = .ok (.aload_n 0, 1) := by decide +kernel
theorem dX10_match_1 : decode cX10_match 1 = .ok (.iconst 0, 1) := by decide +kernel
theorem dX10_match_2 : decode cX10_match 2 = .ok (.putfield 3, 3) := by decide +kernel
theorem dX10_match_5 : decode cX10_match 5 = .ok (.iload_n 1, 1) := by decide +kernel
theorem dX10_match_6 : decode cX10_match 6 = .ok (.aload_n 0, 1) := by decide +kernel
theorem dX10_match_7 : decode cX10_match 7 = .ok (.invokevirtual 362, 3) := by decide +kernel
theorem dX10_match_10 : decode cX10_match 10 = .ok (.iand, 1) := by decide +kernel
theorem dX10_match_11 : decode cX10_match 11 = .ok (.istore_n 3, 1) := by decide +kernel
theorem dX10_match_12 : decode cX10_match 12 = .ok (.iload_n 3, 1) := by decide +kernel
theorem dX10_match_13 : decode cX10_match 13 = .ok (.invokestatic 342, 3) := by decide +kernel
theorem dX10_match_16 : decode cX10_match 16 = .ok (.istore 4, 2) := by decide +kernel
theorem dX10_match_18 : decode cX10_match 18 = .ok (.aload_n 0, 1) := by decide +kernel
theorem dX10_match_19 : decode cX10_match 19 = .ok (.iload 4, 2) := by decide +kernel
theorem dX10_match_21 : decode cX10_match 21 = .ok (.iconst 5, 1) := by decide +kernel
theorem dX10_match_22 : decode cX10_match 22 = .ok (.if_icmp .le 7, 3) := by decide +kernel
theorem dX10_match_29 : decode cX10_match 29 = .ok (.iconst 0, 1) := by decide +kernel
theorem dX10_match_30 : decode cX10_match 30 = .ok (.iconst 1, 1) := by decide +kernel
theorem dX10_match_31 : decode cX10_match 31 = .ok (.invokevirtual 241, 3) := by decide +kernel
theorem dX10_match_34 : decode cX10_match 34 = .ok (.ifCond .eq 5, 3) := by decide +kernel
theorem dX10_match_39 : decode cX10_match 39 = .ok (.aload_n 0, 1) := by decide +kernel
theorem dX10_match_40 : decode cX10_match 40 = .ok (.iload_n 3, 1) := by decide +kernel
theorem dX10_match_41 : decode cX10_match 41 = .ok (.iconst 0, 1) := by decide +kernel
theorem dX10_match_42 : decode cX10_match 42 = .ok (.invokevirtual 366, 3) := by decide +kernel
theorem dX10_match_45 : decode cX10_match 45 = .ok (.aload_n 0, 1) := by decide +kernel
theorem dX10_match_46 : decode cX10_match 46 = .ok (.iload 4, 2) := by decide +kernel
theorem dX10_match_48 : decode cX10_match 48 = .ok (.invokevirtual 385, 3) := by decide +kernel
theorem dX10_match_51 : decode cX10_match 51 = .ok (.aload_n 0, 1) := by decide +kernel
theorem dX10_match_52 : decode cX10_match 52 = .ok (.getfield 51, 3) := by decide +kernel
theorem dX10_match_55 : decode cX10_match 55 = .ok (.iconst 0, 1) := by decide +kernel
theorem dX10_match_56 : decode cX10_match 56 = .ok (.iconst 0, 1) := by decide +kernel
theorem dX10_match_57 : decode cX10_match 57 = .ok (.invokestatic 378, 3) := by decide +kernel
theorem dX10_match_60 : decode cX10_match 60 = .ok (.iaload, 1) := by decide +kernel
theorem dX10_match_61 : decode cX10_match 61 = .ok (.istore 5, 2) := by decide +kernel
theorem dX10_match_63 : decode cX10_match 63 = .ok (.iload_n 2, 1) := by decide +kernel
theorem dX10_match_64 : decode cX10_match 64 = .ok (.iconst (-1), 1) := by decide +kernel
theorem dX10_match_65 : decode cX10_match 65 = .ok (.if_icmp .ne 6, 3) := by decide +kernel
theorem dX10_match_71 : decode cX10_match 71 = .ok (.iload_n 2, 1) := by decide +kernel
theorem dX10_match_72 : decode cX10_match 72 = .ok (.iconst 0, 1) := by decide +kernel
theorem dX10_match_73 : decode cX10_match 73 = .ok (.iload 4, 2) := by decide +kernel
theorem dX10_match_75 : decode cX10_match 75 = .ok (.iconst 1, 1) := by decide +kernel
theorem dX10_match_76 : decode cX10_match 76 = .ok (.isub, 1) := by decide +kernel
theorem dX10_match_77 : decode cX10_match 77 = .ok (.invokestatic 78, 3) := by decide +kernel
theorem dX10_match_80 : decode cX10_match 80 = .ok (.ifCond .eq 11, 3) := by decide +kernel
theorem dX10_match_91 : decode cX10_match 91 = .ok (.iconst (-1), 1) := by decide +kernel
theorem dX10_match_92 : decode cX10_match 92 = .ok (.ireturn, 1) := by decide +kernel
theorem dX10_match_83 : decode cX10_match 83 = .ok (.iload 5, 2) := by decide +kernel
theorem dX10_match_85 : decode cX10_match 85 = .ok (.ldc_w 365, 3) := by decide +kernel
theorem dX10_match_88 : decode cX10_match 88 = .ok (.if_icmp .ne 5, 3) := by decide +kernel
theorem dX10_match_93 : decode cX10_match 93 = .ok (.iconst 0, 1) := by decide +kernel
theorem dX10_match_94 : decode cX10_match 94 = .ok (.istore 6, 2) := by decide +kernel
theorem dX10_match_96 : decode cX10_match 96 = .ok (.iconst 0, 1) := by decide +kernel
theorem dX10_match_97 : decode cX10_match 97 = .ok (.istore 7, 2) := by decide +kernel
theorem dX10_match_99 : decode cX10_match 99 = .ok (.iconst 0, 1) := by decide +kernel
theorem dX10_match_100 : decode cX10_match 100 = .ok (.istore 8, 2) := by decide +kernel
theorem dX10_match_164 : decode cX10_match 164 = .ok (.iload 7, 2) := by decide +kernel
theorem dX10_match_166 : decode cX10_match 166 = .ok (.ireturn, 1) := by decide +kernel
theorem dX10_match_68 : decode cX10_match 68 = .ok (.iload 5, 2) := by decide +kernel
theorem dX10_match_70 : decode cX10_match 70 = .ok (.ireturn, 1) := by decide +kernel
theorem dX10_match_25 : decode cX10_match 25 = .ok (.iconst 1, 1) := by decide +kernel
theorem dX10_match_26 : decode cX10_match 26 = .ok (.goto 4, 3) := by decide +kernel
theorem dX10_match_37 : decode cX10_match 37 = .ok (.iconst 0, 1) := by decide +kernel
theorem dX10_match_38 : decode cX10_match 38 = .ok (.ireturn, 1) := by decide +kernel
/-! match of the reference by hand -/
theorem more_b {f lw lt m : Int32} (hf : inIv (0, 720) f) (h1 : inIv (0, 99) lw) (h2 : inIv (0, 99) lt) (hm : m = if lt - lw < 0 then - imin f (iabs (lt - lw) / nI 2) else imin f (iabs (lt - lw) / nI 2)) : inIv (-99, 99) m := by
  have h := (more_iv hf h1 h2 m hm).1
  have h3 := ivSub_ok h h1
  rw [show lw + m - lw = m by rw [Int32.add_comm, Int32.add_sub_cancel]] at h3
  exact h3
theorem gainV_iv {W : Nat → Int32} {op bg en : Nat → Nat} {L w t : Nat} (hw : w < 8) (ht : t < 8) (hL : L ≤ 12) (h : ∀ m, m < L → inIv (0, 60) (W (378 + 4 * m + 1))) (hW : ∀ j, j < 377 → inIv (wbx j) (W j)) : inIv (-396, 396) (gainV W op bg en L w t) := by
  have hm : ∀ s, s < 4 → inIv (-99, 99) (moreV W op bg en L w t s) := fun s hs => by
    have a1 := hW (9 + 7 * w + s) (by omega)
    have a2 := hW (65 + 9 * t + s) (by omega)
    rw [wbx_w hw hs] at a1
    rw [wbx_t ht hs] at a2
    exact more_b (flowV_iv (op := op) (bg := bg) (en := en) (w := w) (t := t) (s := s) hL h) a1 a2 rfl
  exact ivAdd_ok (ivAdd_ok (ivAdd_ok (hm 0 (by decide)) (hm 1 (by decide))) (hm 2 (by decide))) (hm 3 (by decide))
theorem mskN : ∀ w : Fin 9, (nI 1 <<< (nI w &&& 31)) - nI 1 = nI (2 ^ (w : Nat) - 1) := by decide +kernel
theorem mskL : ∀ w : Fin 9, 2 ^ (w : Nat) - 1 < 256 := by decide +kernel
theorem andN (x : Int32) (m : Nat) (hm : m < 256) : ∃ k, k < 256 ∧ x &&& nI m = nI k := by
  refine ⟨(x &&& nI m).toBitVec.toNat, ?_, ?_⟩
  · have h : (x &&& nI m).toBitVec = x.toBitVec &&& BitVec.ofNat 32 m := rfl
    rw [h, BitVec.toNat_and]
    refine Nat.lt_of_le_of_lt Nat.and_le_right ?_
    rw [BitVec.toNat_ofNat]
    exact Nat.lt_of_le_of_lt (Nat.mod_le _ _) hm
  · apply Int32.toBitVec_inj.mp
    show _ = BitVec.ofNat 32 _
    rw [BitVec.ofNat_toNat]; simp
/-- what the law's loop wants of a call of the reference -/
def LQ (I : Hi) (z : Int32) (o : Rs) (J : Hi) : Prop := (∃ v, o = .inl (some (.int v))) ∧ BX J ∧ XM J ∧ J 94 6 = I 94 6 ∧ J 94 9 = z ∧ ∀ c, c < 94 ∨ c = 100 → J c = I c
section Mat
variable (G : Gx) (d : Nat) (I : Hi) (op bg en : Nat → Nat) (L : Nat)
theorem lp_mi {kx : Kx} {b : Nat} (N i c w s : Nat) (hi : i < 5) (hc : c < 256) (hw : w < 8) (hN : N ≤ 8) (hrow : I 104 i = nI w) (hR : LawR (I 95) op bg en L) (T : Nat → Int32) (hs : s < N) (hj : jobV (I 95) T op bg en L i c w s = T (256 * i + c)) (x1 x2 x3 x4 x5 : Option Value)
    (kk : ∀ (g : Nat → Int32) (t : Nat), t < N → jobV (I 95) T op bg en L i c w t = T (256 * i + c) → Rn G GAM mX10_match kx (d + 9) b 149 [some (.ref 94), x1, x2, x3, x4, x5, some (.int (nI c)), some (.int (nI t)), some (.int (nI i))] [] (zset (zset I 102 g) 106 T)) :
    ∀ (m t : Nat) (g : Nat → Int32), t + m = s → Rn G GAM mX10_match kx (d + 9) b 111 [some (.ref 94), x1, x2, x3, x4, x5, some (.int (nI c)), some (.int (nI t)), some (.int (nI i))] [] (zset (zset I 102 g) 106 T) := by
  intro m
  induction m with
  | zero =>
    intro t g ht
    obtain rfl : t = s := by omega
    refine Rn.aload_n dX10_match_111 rfl rfl ?_
    refine Rn.iload dX10_match_112 rfl ?_
    refine Rn.iload dX10_match_114 rfl ?_
    refine Rn.aload_n dX10_match_116 rfl rfl ?_
    refine Rn.getR dX10_match_117 fd_X10_45_9 (by first | rfl | exact gC0 (by assumption) | exact gL0 (by assumption)) rfl ?_
    refine Rn.iload dX10_match_120 rfl ?_
    refine Rn.ialdN dX10_match_122 (by first | rfl | exact gC1 (by assumption) | exact gC2 (by assumption) | exact gC3 (by assumption) | exact gL1 (by assumption) | exact gL2 (by assumption) | exact gL3 (by assumption) | exact gL4 (by assumption) | exact gL5 (by assumption) | exact gL6 (by assumption)) ?_
    refine Rn.topI (nI w) (by exact hrow) ?_
    refine Rn.iload dX10_match_123 rfl ?_
    refine Rn.callVe (As := [_, _, _, _]) dX10_match_125 mv_X10_381 (by first | rfl | exact gC0 (by assumption) | exact gL0 (by assumption)) rfl rfl rfl (Nat.le_of_ble_eq_true rfl) (ct_jobBy G _ _ op bg en L _ _ _ _ (by omega) (by omega) (by omega) (by omega) hR) (fun g2 => ?_)
    refine Rn.aload_n dX10_match_128 rfl rfl ?_
    refine Rn.getR dX10_match_129 fd_X10_51_9 (by first | rfl | exact gC0 (by assumption) | exact gL0 (by assumption)) rfl ?_
    refine Rn.iload dX10_match_132 rfl ?_
    refine Rn.iload dX10_match_134 rfl ?_
    refine Rn.callSp (As := [_, _]) dX10_match_136 ms_X10_378 rfl rfl (Nat.le_of_ble_eq_true rfl) (ct_jobAt G _ _ _ _ (by omega)) ?_
    refine Rn.ialdN dX10_match_139 (by first | rfl | exact gC1 (by assumption) | exact gC2 (by assumption) | exact gC3 (by assumption) | exact gL1 (by assumption) | exact gL2 (by assumption) | exact gL3 (by assumption) | exact gL4 (by assumption) | exact gL5 (by assumption) | exact gL6 (by assumption)) ?_
    refine Rn.icmp_eq (tgt := 149) dX10_match_140 (by decide) (fun h9 => ?_) (fun h9 => ?_)
    · exact Rn.hpp _ (zset3j I g T g2) (kk g2 t hs hj)
    · exact absurd hj h9
  | succ m ih =>
    intro t g ht
    refine Rn.aload_n dX10_match_111 rfl rfl ?_
    refine Rn.iload dX10_match_112 rfl ?_
    refine Rn.iload dX10_match_114 rfl ?_
    refine Rn.aload_n dX10_match_116 rfl rfl ?_
    refine Rn.getR dX10_match_117 fd_X10_45_9 (by first | rfl | exact gC0 (by assumption) | exact gL0 (by assumption)) rfl ?_
    refine Rn.iload dX10_match_120 rfl ?_
    refine Rn.ialdN dX10_match_122 (by first | rfl | exact gC1 (by assumption) | exact gC2 (by assumption) | exact gC3 (by assumption) | exact gL1 (by assumption) | exact gL2 (by assumption) | exact gL3 (by assumption) | exact gL4 (by assumption) | exact gL5 (by assumption) | exact gL6 (by assumption)) ?_
    refine Rn.topI (nI w) (by exact hrow) ?_
    refine Rn.iload dX10_match_123 rfl ?_
    refine Rn.callVe (As := [_, _, _, _]) dX10_match_125 mv_X10_381 (by first | rfl | exact gC0 (by assumption) | exact gL0 (by assumption)) rfl rfl rfl (Nat.le_of_ble_eq_true rfl) (ct_jobBy G _ _ op bg en L _ _ _ _ (by omega) (by omega) (by omega) (by omega) hR) (fun g2 => ?_)
    refine Rn.aload_n dX10_match_128 rfl rfl ?_
    refine Rn.getR dX10_match_129 fd_X10_51_9 (by first | rfl | exact gC0 (by assumption) | exact gL0 (by assumption)) rfl ?_
    refine Rn.iload dX10_match_132 rfl ?_
    refine Rn.iload dX10_match_134 rfl ?_
    refine Rn.callSp (As := [_, _]) dX10_match_136 ms_X10_378 rfl rfl (Nat.le_of_ble_eq_true rfl) (ct_jobAt G _ _ _ _ (by omega)) ?_
    refine Rn.ialdN dX10_match_139 (by first | rfl | exact gC1 (by assumption) | exact gC2 (by assumption) | exact gC3 (by assumption) | exact gL1 (by assumption) | exact gL2 (by assumption) | exact gL3 (by assumption) | exact gL4 (by assumption) | exact gL5 (by assumption) | exact gL6 (by assumption)) ?_
    refine Rn.icmp_eq (tgt := 149) dX10_match_140 (by decide) (fun h9 => ?_) (fun h9 => ?_)
    · exact Rn.hpp _ (zset3j I g T g2) (kk g2 t (by omega) h9)
    · refine Rn.iincN dX10_match_143 rfl (by decide) ?_
      refine Rn.goto 111 dX10_match_146 (by decide) ?_
      exact Rn.hpp _ (zset3j I g T g2) (ih (t + 1) g2 (by omega))
theorem lp_mo {kx : Kx} {b : Nat} (N n q : Nat) (r : Nat → Nat) (hn : n ≤ 5) (hq : q < n) (hr : ∀ k, k < n → r k < 8 ∧ I 104 k = nI (r k)) (hN : N ≤ 8) (hR : LawR (I 95) op bg en L) (hgn : ∀ w t, w < 8 → t < 8 → inIv (-396, 396) (gainV (I 95) op bg en L w t)) (T : Nat → Int32) (hT : rowsK (I 95) T op bg en L N n 0 r) (x1 x3 x4 x5 : Option Value)
    (kk : ∀ (g : Nat → Int32) (x6 x8 : Option Value) (z : Int32), Rn G GAM mX10_match kx (d + 9) b 164 [some (.ref 94), x1, some (.int (nI q)), x3, x4, x5, x6, some (.int z), x8] [] (zset (zset I 102 g) 106 T)) :
    ∀ (m i c : Nat) (z : Int32) (g : Nat → Int32), i + m = q + 1 → c < 256 → (i ≤ q → T (256 * i + c) ≠ -1000000) → Rn G GAM mX10_match kx (d + 9) b 102 [some (.ref 94), x1, some (.int (nI q)), x3, x4, x5, some (.int (nI c)), some (.int z), some (.int (nI i))] [] (zset (zset I 102 g) 106 T) := by
  intro m
  induction m with
  | zero =>
    intro i c z g hi hc h1
    obtain rfl : i = q + 1 := by omega
    refine Rn.iload dX10_match_102 rfl ?_
    refine Rn.iload_n dX10_match_104 rfl rfl ?_
    refine Rn.icmp_gtN dX10_match_105 164 (fun _ => ?_) (fun h9 => by exfalso; omega)
    exact kk g _ _ z
  | succ m ih =>
    intro i c z g hi hc h1
    have h2 := h1 (by omega)
    rcases hT i (Nat.zero_le _) (by omega) c hc with h3 | ⟨h3, s, h4, h5⟩
    · exact absurd h3 h2
    refine Rn.iload dX10_match_102 rfl ?_
    refine Rn.iload_n dX10_match_104 rfl rfl ?_
    refine Rn.icmp_gtN dX10_match_105 164 (fun h9 => by exfalso; omega) (fun _ => ?_)
    refine Rn.iconst (v := (nI 0)) dX10_match_108 rfl ?_
    refine Rn.istore dX10_match_109 (by decide) ?_
    refine lp_mi G d I op bg en L N i c (r i) s (by omega) hc (hr i (by omega)).1 hN (hr i (by omega)).2 hR T h4 h5 _ _ _ _ _ (fun g2 t h6 h7 => ?_) s 0 g (by omega)
    have ho : orT c t < 256 := orT_lt ⟨c, hc⟩ ⟨t, by omega⟩
    refine Rn.iload dX10_match_149 rfl ?_
    refine Rn.iconst (v := (nI 1)) dX10_match_151 rfl ?_
    refine Rn.iload dX10_match_152 rfl ?_
    refine Rn.ishl dX10_match_154 ?_
    refine Rn.ior dX10_match_155 ?_
    refine Rn.topI (nI (orT c t)) (orT_N ⟨c, hc⟩ ⟨t, by omega⟩) ?_
    refine Rn.istore dX10_match_156 (by decide) ?_
    refine Rn.iincN dX10_match_158 rfl (by decide) ?_
    refine Rn.goto 102 dX10_match_161 (by decide) ?_
    refine ih (i + 1) (orT c t) _ g2 (by omega) ho (fun _ h8 => ?_)
    rw [← h7] at h3
    unfold jobV at h3
    split at h3
    · exact absurd h3 (by decide)
    · rw [h8] at h3
      have h9 := ivAdd_ok (hgn (r i) t (hr i (by omega)).1 (by omega)) (show inIv (-1000000, -1000000) (-1000000 : Int32) from ⟨by decide, by decide⟩)
      unfold inIv at h9
      have h10 : (gainV (I 95) op bg en L (r i) t + (-1000000)).toInt ≤ -999604 := h9.2
      omega
theorem ct_thI1 (c : Int32) : Ct G GAM mX10_throwsIf d 0 [.ref 94, .int (nI 1), .int c] I (Rp (some (.int (nI 1))) (zup I 94 0 c)) := by
  have h := ct_throwsIf G d I True c
  rw [if_pos trivial, bI_t trivial] at h
  exact h
theorem ct_thI0 (c : Int32) : Ct G GAM mX10_throwsIf d 0 [.ref 94, .int (nI 0), .int c] I (Rp (some (.int (nI 0))) I) := by
  have h := ct_throwsIf G d I False c
  rw [if_neg (fun q => q), bI_f (fun q => q)] at h
  exact h
/-- match leaves all but its own rows -/
def FRm (I J : Hi) : Prop := (∀ c, c ≠ 94 → c ≠ 102 → c ≠ 104 → c ≠ 106 → J c = I c) ∧ ∀ j, j ≠ 0 → J 94 j = I 94 j
def LQm (I : Hi) (z : Int32) (o : Rs) (J : Hi) : Prop := LQ I z o J ∧ FRm I J
theorem LQ_1 {v : Int32} (hB : BX I) (hX : XM I) : LQm I (I 94 9) (.inl (some (.int v))) (zup (zup I 94 0 (nI 0)) 94 0 (nI 1)) :=
  ⟨⟨⟨v, rfl⟩, BX.thr (BX.thr hB _) _, XM.up (XM.up hX (by decide)) (by decide), by rw [zup_at, upd_ne _ _ (by decide), zup_at, upd_ne _ _ (by decide)], by rw [zup_at, upd_ne _ _ (by decide), zup_at, upd_ne _ _ (by decide)], fun c hc => by rw [zup_ne _ _ (by omega), zup_ne _ _ (by omega)]⟩, fun c a1 a2 a3 a4 => by rw [zup_ne _ _ a1, zup_ne _ _ a1], fun j hj => by rw [zup_at, upd_ne _ _ hj, zup_at, upd_ne _ _ hj]⟩
theorem LQ_2 {v : Int32} (hB : BX I) (hX : XM I) (g1 g2 g3 : Nat → Int32) (h1 : ∀ j, inIv (0, 7) (g1 j)) : LQm I (I 94 9) (.inl (some (.int v))) (zset (zset (zset (zup I 94 0 (nI 0)) 104 g1) 102 g2) 106 g3) :=
  ⟨⟨⟨v, rfl⟩, BX.triv (BX.triv (BX.set (a := 104) (g := g1) (BX.thr hB _) h1) (by decide) _) (by decide) _, ((XM.up hX (by decide)).ne (by decide) (by decide) _ |>.ne (by decide) (by decide) _).ne (by decide) (by decide) _,
   by rw [zset_ne _ _ (by decide), zset_ne _ _ (by decide), zset_ne _ _ (by decide), zup_at, upd_ne _ _ (by decide)], by rw [zset_ne _ _ (by decide), zset_ne _ _ (by decide), zset_ne _ _ (by decide), zup_at, upd_ne _ _ (by decide)], fun c hc => by rw [zset_ne _ _ (by omega), zset_ne _ _ (by omega), zset_ne _ _ (by omega), zup_ne _ _ (by omega)]⟩, fun c a1 a2 a3 a4 => by rw [zset_ne _ _ a4, zset_ne _ _ a2, zset_ne _ _ a3, zup_ne _ _ a1], fun j hj => by rw [zset_ne _ _ (by decide), zset_ne _ _ (by decide), zset_ne _ _ (by decide), zup_at, upd_ne _ _ hj]⟩
theorem lw_match (hB : BX I) (hX : XM I) (x y : Int32) : Ct G GAM mX10_match (d + 10) 0 [.ref 94, .int x, .int y] I (LQm I (I 94 9)) := by
  refine Ct.mk [some (.ref 94), some (.int x), some (.int y), none, none, none, none, none, none] ?_
  obtain ⟨W, hW, h0⟩ := nI_iv (n := 8) (show inIv (0, 8) (I 95 0) from hB 95 0)
  obtain ⟨N, hN, h1⟩ := nI_iv (n := 8) (show inIv (0, 8) (I 95 1) from hB 95 1)
  obtain ⟨c, hc, hcx⟩ := andN x (2 ^ W - 1) (mskL ⟨W, by omega⟩)
  have h3 := BX.w hB (p := 3) (by decide)
  obtain ⟨op, bg, en, L, hR, hL, hN9⟩ := hX.1.r h3
  refine Rn.aload_n dX10_match_0 rfl rfl ?_
  refine Rn.iconst (v := (nI 0)) dX10_match_1 rfl ?_
  refine Rn.putI dX10_match_2 fp_X10_3_9 (by first | rfl | exact gC0 (by assumption) | exact gL0 (by assumption)) rfl ?_
  refine Rn.iload_n dX10_match_5 rfl rfl ?_
  refine Rn.aload_n dX10_match_6 rfl rfl ?_
  refine Rn.callVp (As := []) dX10_match_7 mv_X10_362 (by first | rfl | exact gC0 (by assumption) | exact gL0 (by assumption)) rfl rfl rfl (Nat.le_of_ble_eq_true rfl) (ct_allWomen G _ _) ?_
  refine Rn.topI (nI (2 ^ W - 1)) (by rw [zup_ne _ _ (by decide), h0]; exact mskN ⟨W, by omega⟩) ?_
  refine Rn.iand dX10_match_10 ?_
  refine Rn.topI (nI c) hcx ?_
  refine Rn.istore_n dX10_match_11 rfl (by decide) ?_
  refine Rn.iload_n dX10_match_12 rfl rfl ?_
  refine Rn.callSp (As := [_]) dX10_match_13 ms_X10_342 rfl rfl (Nat.le_of_ble_eq_true rfl) (ct_bitCount G _ _ _) ?_
  refine Rn.topI (nI (popN c)) (bcV_N ⟨c, hc⟩) ?_
  have h8 : popN c ≤ 8 := Nat.le_trans (List.length_filter_le _ _) (by simp)
  refine Rn.istore dX10_match_16 (by decide) ?_
  refine Rn.aload_n dX10_match_18 rfl rfl ?_
  refine Rn.iload dX10_match_19 rfl ?_
  refine Rn.iconst (v := (nI 5)) dX10_match_21 rfl ?_
  refine Rn.icmp_leN dX10_match_22 29 (fun hp => ?_) (fun hp => ?_)
  · refine Rn.iconst (v := (nI 0)) dX10_match_29 rfl ?_
    refine Rn.iconst (v := (nI 1)) dX10_match_30 rfl ?_
    refine Rn.callVp (As := [_, _]) dX10_match_31 mv_X10_241 (by first | rfl | exact gC0 (by assumption) | exact gL0 (by assumption)) rfl rfl rfl (Nat.le_of_ble_eq_true rfl) (ct_thI0 G _ _ _) ?_
    refine Rn.if_eq (tgt := 39) dX10_match_34 (by decide) (fun _ => ?_) (fun h9 => absurd h9 (by decide))
    refine Rn.aload_n dX10_match_39 rfl rfl ?_
    refine Rn.iload_n dX10_match_40 rfl rfl ?_
    refine Rn.iconst (v := (nI 0)) dX10_match_41 rfl ?_
    refine Rn.callV (As := [_, _]) dX10_match_42 mv_X10_366 (by first | rfl | exact gC0 (by assumption) | exact gL0 (by assumption)) rfl rfl rfl (Nat.le_of_ble_eq_true rfl) (ct_laysRow (G := G) _ _ ⟨c, hc⟩ 0 hp (facN_pos _) (fun j => hB 104 j)) (fun E J h => nomatch h.1) (fun v J h => ?_)
    obtain ⟨hv, g, rfl, hg1, -⟩ := h
    cases hv
    have hr : ∀ k, k < popN c → (g k).toInt.toNat < 8 ∧ g k = nI (g k).toInt.toNat := fun k _ => by
      obtain ⟨z, hz, e⟩ := nI_iv (n := 7) (hg1 k)
      rw [e, nI_toInt (by omega)]
      exact ⟨by omega, by rw [Int.toNat_natCast]⟩
    refine Rn.aload_n dX10_match_45 rfl rfl ?_
    refine Rn.iload dX10_match_46 rfl ?_
    refine Rn.callV (As := [_]) dX10_match_48 mv_X10_385 (by first | rfl | exact gC0 (by assumption) | exact gL0 (by assumption)) rfl rfl rfl (Nat.le_of_ble_eq_true rfl) (ct_laysJobs G _ _ op bg en L N (popN c) (fun k => (g k).toInt.toNat) hp hr hN h1 hR) (fun E J h => nomatch h.1) (fun v J h => ?_)
    obtain ⟨hv, g2, T, rfl, hT⟩ := h
    cases hv
    refine Rn.aload_n dX10_match_51 rfl rfl ?_
    refine Rn.getR dX10_match_52 fd_X10_51_9 (by first | rfl | exact gC0 (by assumption) | exact gL0 (by assumption)) rfl ?_
    refine Rn.iconst (v := (nI 0)) dX10_match_55 rfl ?_
    refine Rn.iconst (v := (nI 0)) dX10_match_56 rfl ?_
    refine Rn.callSp (As := [_, _]) dX10_match_57 ms_X10_378 rfl rfl (Nat.le_of_ble_eq_true rfl) (ct_jobAt G _ _ _ _ (by omega)) ?_
    refine Rn.ialdN dX10_match_60 (by first | rfl | exact gC1 (by assumption) | exact gC2 (by assumption) | exact gC3 (by assumption) | exact gL1 (by assumption) | exact gL2 (by assumption) | exact gL3 (by assumption) | exact gL4 (by assumption) | exact gL5 (by assumption) | exact gL6 (by assumption)) ?_
    refine Rn.istore dX10_match_61 (by decide) ?_
    refine Rn.iload_n dX10_match_63 rfl rfl ?_
    refine Rn.iconst (v := (-1)) dX10_match_64 rfl ?_
    refine Rn.icmp_ne (tgt := 71) dX10_match_65 (by decide) (fun h5 => ?_) (fun h5 => ?_)
    · refine Rn.iload_n dX10_match_71 rfl rfl ?_
      refine Rn.iconst (v := (nI 0)) dX10_match_72 rfl ?_
      refine Rn.iload dX10_match_73 rfl ?_
      refine Rn.iconst (v := (nI 1)) dX10_match_75 rfl ?_
      refine Rn.isub dX10_match_76 ?_
      refine Rn.callSp (As := [_, _, _]) dX10_match_77 ms_X10_78 rfl rfl (Nat.le_of_ble_eq_true rfl) (ct_in G _ _ _ _ _) ?_
      refine Rn.if_eqB dX10_match_80 91 (fun h6 => ?_) (fun h6 => ?_)
      · refine Rn.iconst (v := (-1)) dX10_match_91 rfl ?_
        exact Rn.iret dX10_match_92 rfl (LQ_2 I hB hX g g2 T hg1)
      · refine Rn.iload dX10_match_83 rfl ?_
        refine Rn.ldc_w dX10_match_85 kc_X10_365 ?_
        refine Rn.icmp_ne (tgt := 93) dX10_match_88 (by decide) (fun h7 => ?_) (fun h7 => ?_)
        · refine Rn.iconst (v := (nI 0)) dX10_match_93 rfl ?_
          refine Rn.istore dX10_match_94 (by decide) ?_
          refine Rn.iconst (v := (nI 0)) dX10_match_96 rfl ?_
          refine Rn.istore dX10_match_97 (by decide) ?_
          refine Rn.iconst (v := (nI 0)) dX10_match_99 rfl ?_
          refine Rn.istore dX10_match_100 (by decide) ?_
          have h9 : ∃ q, q < popN c ∧ y = nI q := by
            obtain ⟨a1, a2⟩ := h6
            have a1 := Int32.le_iff_toInt_le.mp a1
            have a2 := Int32.le_iff_toInt_le.mp a2
            have a3 : (nI (popN c) - nI 1).toInt = (popN c : Int) - 1 := by
              rw [show nI (popN c) - nI 1 = Int32.ofInt ((popN c : Int) - 1) by rw [Int32.ofInt_sub]; rfl]
              exact toI_of (by omega) (by omega)
            have a4 : (nI 0).toInt = 0 := rfl
            obtain ⟨q, hq, e⟩ := nI_iv (n := 7) (x := y) ⟨by rw [← a4]; exact a1, by show _ ≤ (7 : Int); omega⟩
            refine ⟨q, ?_, e⟩
            rw [e, nI_toInt (by omega)] at a2
            omega
          obtain ⟨q, hq, rfl⟩ := h9
          refine lp_mo G (d + 1) (zset (zup I 94 0 (nI 0)) 104 g) op bg en L N (popN c) q (fun k => (g k).toInt.toNat) hp hq hr hN hR (fun w t a1 a2 => gainV_iv a1 a2 hL hN9 (fun j hj => BX.w hB hj)) T hT _ _ _ _ (fun g3 x6 x8 z => ?_) (q + 1) 0 0 _ g2 (by omega) (by decide) (fun _ => h7)
          refine Rn.iload dX10_match_164 rfl ?_
          exact Rn.iret dX10_match_166 rfl (LQ_2 I hB hX g g3 T hg1)
        · refine Rn.iconst (v := (-1)) dX10_match_91 rfl ?_
          exact Rn.iret dX10_match_92 rfl (LQ_2 I hB hX g g2 T hg1)
    · refine Rn.iload dX10_match_68 rfl ?_
      exact Rn.iret dX10_match_70 rfl (LQ_2 I hB hX g g2 T hg1)
  · refine Rn.iconst (v := (nI 1)) dX10_match_25 rfl ?_
    refine Rn.goto 30 dX10_match_26 (by decide) ?_
    refine Rn.iconst (v := (nI 1)) dX10_match_30 rfl ?_
    refine Rn.callVp (As := [_, _]) dX10_match_31 mv_X10_241 (by first | rfl | exact gC0 (by assumption) | exact gL0 (by assumption)) rfl rfl rfl (Nat.le_of_ble_eq_true rfl) (ct_thI1 G _ _ _) ?_
    refine Rn.if_eq (tgt := 39) dX10_match_34 (by decide) (fun h9 => absurd h9 (by decide)) (fun _ => ?_)
    refine Rn.iconst (v := (nI 0)) dX10_match_37 rfl ?_
    exact Rn.iret dX10_match_38 rfl (LQ_1 I hB hX)
end Mat
