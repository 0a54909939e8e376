theorem dX10_weds_21 : decode cX10_weds 21 = .ok (.iload 6, 2) := by decide +kernel
theorem dX10_weds_23 : decode cX10_weds 23 = .ok (.iconst 4, 1) := by decide +kernel
theorem dX10_weds_24 : decode cX10_weds 24 = .ok (.if_icmp .ge 24, 3) := by decide +kernel
theorem dX10_weds_27 : decode cX10_weds 27 = .ok (.aload_n 0, 1) := by decide +kernel
theorem dX10_weds_28 : decode cX10_weds 28 = .ok (.getfield 42, 3) := by decide +kernel
theorem dX10_weds_31 : decode cX10_weds 31 = .ok (.iload 6, 2) := by decide +kernel
theorem dX10_weds_33 : decode cX10_weds 33 = .ok (.aload_n 0, 1) := by decide +kernel
theorem dX10_weds_34 : decode cX10_weds 34 = .ok (.iload_n 1, 1) := by decide +kernel
theorem dX10_weds_35 : decode cX10_weds 35 = .ok (.iload_n 2, 1) := by decide +kernel
theorem dX10_weds_36 : decode cX10_weds 36 = .ok (.iload 6, 2) := by decide +kernel
theorem dX10_weds_38 : decode cX10_weds 38 = .ok (.invokevirtual 269, 3) := by decide +kernel
theorem dX10_weds_41 : decode cX10_weds 41 = .ok (.iastore, 1) := by decide +kernel
theorem dX10_weds_42 : decode cX10_weds 42 = .ok (.iinc 6 1, 3) := by decide +kernel
theorem dX10_weds_45 : decode cX10_weds 45 = .ok (.goto (-24), 3) := by decide +kernel
theorem dX10_weds_51 : decode cX10_weds 51 = .ok (.iload 6, 2) := by decide +kernel
theorem dX10_weds_53 : decode cX10_weds 53 = .ok (.iconst 4, 1) := by decide +kernel
theorem dX10_weds_54 : decode cX10_weds 54 = .ok (.if_icmp .ge 61, 3) := by decide +kernel
theorem dX10_weds_57 : decode cX10_weds 57 = .ok (.aload_n 0, 1) := by decide +kernel
theorem dX10_weds_58 : decode cX10_weds 58 = .ok (.getfield 13, 3) := by decide +kernel
theorem dX10_weds_61 : decode cX10_weds 61 = .ok (.iload_n 1, 1) := by decide +kernel
theorem dX10_weds_62 : decode cX10_weds 62 = .ok (.iload 6, 2) := by decide +kernel
theorem dX10_weds_64 : decode cX10_weds 64 = .ok (.invokestatic 61, 3) := by decide +kernel
theorem dX10_weds_67 : decode cX10_weds 67 = .ok (.dup2, 1) := by decide +kernel
theorem dX10_weds_68 : decode cX10_weds 68 = .ok (.iaload, 1) := by decide +kernel
theorem dX10_weds_69 : decode cX10_weds 69 = .ok (.aload_n 0, 1) := by decide +kernel
theorem dX10_weds_70 : decode cX10_weds 70 = .ok (.getfield 42, 3) := by decide +kernel
theorem dX10_weds_73 : decode cX10_weds 73 = .ok (.iload 6, 2) := by decide +kernel
theorem dX10_weds_75 : decode cX10_weds 75 = .ok (.iaload, 1) := by decide +kernel
theorem dX10_weds_76 : decode cX10_weds 76 = .ok (.iadd, 1) := by decide +kernel
theorem dX10_weds_77 : decode cX10_weds 77 = .ok (.iastore, 1) := by decide +kernel
theorem dX10_weds_78 : decode cX10_weds 78 = .ok (.aload_n 0, 1) := by decide +kernel
theorem dX10_weds_79 : decode cX10_weds 79 = .ok (.getfield 13, 3) := by decide +kernel
theorem dX10_weds_82 : decode cX10_weds 82 = .ok (.iload_n 2, 1) := by decide +kernel
theorem dX10_weds_83 : decode cX10_weds 83 = .ok (.iload 6, 2) := by decide +kernel
theorem dX10_weds_85 : decode cX10_weds 85 = .ok (.invokestatic 68, 3) := by decide +kernel
theorem dX10_weds_88 : decode cX10_weds 88 = .ok (.dup2, 1) := by decide +kernel
theorem dX10_weds_89 : decode cX10_weds 89 = .ok (.iaload, 1) := by decide +kernel
theorem dX10_weds_90 : decode cX10_weds 90 = .ok (.aload_n 0, 1) := by decide +kernel
theorem dX10_weds_91 : decode cX10_weds 91 = .ok (.getfield 42, 3) := by decide +kernel
theorem dX10_weds_94 : decode cX10_weds 94 = .ok (.iload 6, 2) := by decide +kernel
theorem dX10_weds_96 : decode cX10_weds 96 = .ok (.iaload, 1) := by decide +kernel
theorem dX10_weds_97 : decode cX10_weds 97 = .ok (.isub, 1) := by decide +kernel
theorem dX10_weds_98 : decode cX10_weds 98 = .ok (.iastore, 1) := by decide +kernel
theorem dX10_weds_99 : decode cX10_weds 99 = .ok (.iload_n 3, 1) := by decide +kernel
theorem dX10_weds_100 : decode cX10_weds 100 = .ok (.aload_n 0, 1) := by decide +kernel
theorem dX10_weds_101 : decode cX10_weds 101 = .ok (.getfield 42, 3) := by decide +kernel
theorem dX10_weds_104 : decode cX10_weds 104 = .ok (.iload 6, 2) := by decide +kernel
theorem dX10_weds_106 : decode cX10_weds 106 = .ok (.iaload, 1) := by decide +kernel
theorem dX10_weds_107 : decode cX10_weds 107 = .ok (.iadd, 1) := by decide +kernel
theorem dX10_weds_108 : decode cX10_weds 108 = .ok (.istore_n 3, 1) := by decide +kernel
theorem dX10_weds_109 : decode cX10_weds 109 = .ok (.iinc 6 1, 3) := by decide +kernel
theorem dX10_weds_112 : decode cX10_weds 112 = .ok (.goto (-61), 3) := by decide +kernel
theorem dX10_weds_182 : decode cX10_weds 182 = .ok (.ireturn, 1) := by decide +kernel
theorem dX10_weds_0 : decode cX10_weds 0 = .ok (.iconst 0, 1) := by decide +kernel
theorem dX10_weds_1 : decode cX10_weds 1 = .ok (.istore_n 3, 1) := by decide +kernel
theorem dX10_weds_2 : decode cX10_weds 2 = .ok (.aload_n 0, 1) := by decide +kernel
theorem dX10_weds_3 : decode cX10_weds 3 = .ok (.iload_n 1, 1) := by decide +kernel
theorem dX10_weds_4 : decode cX10_weds 4 = .ok (.iload_n 2, 1) := by decide +kernel
theorem dX10_weds_5 : decode cX10_weds 5 = .ok (.invokevirtual 296, 3) := by decide +kernel
theorem dX10_weds_8 : decode cX10_weds 8 = .ok (.istore 4, 2) := by decide +kernel
theorem dX10_weds_10 : decode cX10_weds 10 = .ok (.aload_n 0, 1) := by decide +kernel
theorem dX10_weds_11 : decode cX10_weds 11 = .ok (.iload_n 1, 1) := by decide +kernel
theorem dX10_weds_12 : decode cX10_weds 12 = .ok (.iload_n 2, 1) := by decide +kernel
theorem dX10_weds_13 : decode cX10_weds 13 = .ok (.invokevirtual 299, 3) := by decide +kernel
theorem dX10_weds_16 : decode cX10_weds 16 = .ok (.istore 5, 2) := by decide +kernel
theorem dX10_weds_18 : decode cX10_weds 18 = .ok (.iconst 0, 1) := by decide +kernel
theorem dX10_weds_19 : decode cX10_weds 19 = .ok (.istore 6, 2) := by decide +kernel
theorem dX10_weds_48 : decode cX10_weds 48 = .ok (.iconst 0, 1) := by decide +kernel
theorem dX10_weds_49 : decode cX10_weds 49 = .ok (.istore 6, 2) := by decide +kernel
theorem dX10_weds_115 : decode cX10_weds 115 = .ok (.aload_n 0, 1) := by decide +kernel
theorem dX10_weds_116 : decode cX10_weds 116 = .ok (.getfield 13, 3) := by decide +kernel
theorem dX10_weds_119 : decode cX10_weds 119 = .ok (.iload_n 2, 1) := by decide +kernel
theorem dX10_weds_120 : decode cX10_weds 120 = .ok (.bipush 6, 2) := by decide +kernel
theorem dX10_weds_122 : decode cX10_weds 122 = .ok (.invokestatic 68, 3) := by decide +kernel
theorem dX10_weds_125 : decode cX10_weds 125 = .ok (.bipush 99, 2) := by decide +kernel
theorem dX10_weds_127 : decode cX10_weds 127 = .ok (.aload_n 0, 1) := by decide +kernel
theorem dX10_weds_128 : decode cX10_weds 128 = .ok (.iload_n 2, 1) := by decide +kernel
theorem dX10_weds_129 : decode cX10_weds 129 = .ok (.bipush 6, 2) := by decide +kernel
theorem dX10_weds_131 : decode cX10_weds 131 = .ok (.invokevirtual 71, 3) := by decide +kernel
theorem dX10_weds_134 : decode cX10_weds 134 = .ok (.iload 4, 2) := by decide +kernel
theorem dX10_weds_136 : decode cX10_weds 136 = .ok (.iadd, 1) := by decide +kernel
theorem dX10_weds_137 : decode cX10_weds 137 = .ok (.invokestatic 266, 3) := by decide +kernel
theorem dX10_weds_140 : decode cX10_weds 140 = .ok (.iastore, 1) := by decide +kernel
theorem dX10_weds_141 : decode cX10_weds 141 = .ok (.iload 5, 2) := by decide +kernel
theorem dX10_weds_143 : decode cX10_weds 143 = .ok (.ifCond .eq 15, 3) := by decide +kernel
theorem dX10_weds_158 : decode cX10_weds 158 = .ok (.aload_n 0, 1) := by decide +kernel
theorem dX10_weds_159 : decode cX10_weds 159 = .ok (.getfield 13, 3) := by decide +kernel
theorem dX10_weds_162 : decode cX10_weds 162 = .ok (.iload_n 1, 1) := by decide +kernel
theorem dX10_weds_163 : decode cX10_weds 163 = .ok (.iconst 5, 1) := by decide +kernel
theorem dX10_weds_164 : decode cX10_weds 164 = .ok (.invokestatic 61, 3) := by decide +kernel
theorem dX10_weds_167 : decode cX10_weds 167 = .ok (.bipush 9, 2) := by decide +kernel
theorem dX10_weds_169 : decode cX10_weds 169 = .ok (.aload_n 0, 1) := by decide +kernel
theorem dX10_weds_170 : decode cX10_weds 170 = .ok (.iload_n 1, 1) := by decide +kernel
theorem dX10_weds_171 : decode cX10_weds 171 = .ok (.iconst 5, 1) := by decide +kernel
theorem dX10_weds_172 : decode cX10_weds 172 = .ok (.invokevirtual 65, 3) := by decide +kernel
theorem dX10_weds_175 : decode cX10_weds 175 = .ok (.iconst 1, 1) := by decide +kernel
theorem dX10_weds_176 : decode cX10_weds 176 = .ok (.iadd, 1) := by decide +kernel
theorem dX10_weds_177 : decode cX10_weds 177 = .ok (.invokestatic 266, 3) := by decide +kernel
theorem dX10_weds_180 : decode cX10_weds 180 = .ok (.iastore, 1) := by decide +kernel
theorem dX10_weds_181 : decode cX10_weds 181 = .ok (.iload_n 3, 1) := by decide +kernel
theorem dX10_weds_146 : decode cX10_weds 146 = .ok (.aload_n 0, 1) := by decide +kernel
theorem dX10_weds_147 : decode cX10_weds 147 = .ok (.getfield 13, 3) := by decide +kernel
theorem dX10_weds_150 : decode cX10_weds 150 = .ok (.iload_n 2, 1) := by decide +kernel
theorem dX10_weds_151 : decode cX10_weds 151 = .ok (.bipush 7, 2) := by decide +kernel
theorem dX10_weds_153 : decode cX10_weds 153 = .ok (.invokestatic 68, 3) := by decide +kernel
theorem dX10_weds_156 : decode cX10_weds 156 = .ok (.iconst 1, 1) := by decide +kernel
theorem dX10_weds_157 : decode cX10_weds 157 = .ok (.iastore, 1) := by decide +kernel
theorem zset3 {I J : Hi} {W' : Nat → Int32} (h95 : J 95 = W') (hk : ∀ k, k ≠ 95 → k ≠ 102 → k ≠ 103 → J k = I k) : J = zset (zset (zset I 102 (J 102)) 103 (J 103)) 95 W' := by
  funext k
  simp only [zset]
  by_cases h1 : k = 95
  · subst h1; simp [h95]
  · by_cases h2 : k = 103
    · subst h2; simp
    · by_cases h3 : k = 102
      · subst h3; simp
      · simp [h1, h2, h3, hk k h1 h3 h2]
def wedS (W m : Nat → Int32) (w t : Nat) : Nat → Nat → Int32
  | 0 => W
  | s + 1 => upd (upd (wedS W m w t s) (9 + 7 * w + s) (wedS W m w t s (9 + 7 * w + s) + m s)) (65 + 9 * t + s) (upd (wedS W m w t s) (9 + 7 * w + s) (wedS W m w t s (9 + 7 * w + s) + m s) (65 + 9 * t + s) - m s)
def wedX (W : Nat → Int32) (op bg en : Nat → Nat) (L w t : Nat) : Nat → Int32 :=
  upd (wedS W (moreV W op bg en L w t) w t 4) (65 + 9 * t + 6) (imin (nI 99) (wedS W (moreV W op bg en L w t) w t 4 (65 + 9 * t + 6) + (nI 1 + sumV W op bg en L (nI 1) w t 0)))
def wedY (W : Nat → Int32) (op bg en : Nat → Nat) (L w t : Nat) : Nat → Int32 := if 0 < sumV W op bg en L (nI 2) w t 0 then upd (wedX W op bg en L w t) (65 + 9 * t + 7) (nI 1) else wedX W op bg en L w t
def wedW (W : Nat → Int32) (op bg en : Nat → Nat) (L w t : Nat) : Nat → Int32 := upd (wedY W op bg en L w t) (9 + 7 * w + 5) (imin (nI 9) (wedY W op bg en L w t (9 + 7 * w + 5) + nI 1))
/-- the world W' behind, scratch cells as they come -/
def Rw (v : Option Value) (I : Hi) (W' : Nat → Int32) : Rs → Hi → Prop := fun o J => o = .inl v ∧ ∃ g h, J = zset (zset (zset I 102 g) 103 h) 95 W'
theorem zs_a (I : Hi) (g h g' : Nat → Int32) : zset (zset (zset I 102 g) 103 h) 102 g' = zset (zset I 102 g') 103 h := by
  funext k
  simp only [zset]
  by_cases h1 : k = 102
  · subst h1; simp
  · simp [h1]
def sM (h : Nat → Int32) : Nat → Int32
  | 0 => nI 0
  | s + 1 => sM h s + h s
theorem wedS_congr (W : Nat → Int32) {m m' : Nat → Int32} (w t : Nat) : ∀ n, (∀ j, j < n → m j = m' j) → wedS W m w t n = wedS W m' w t n := by
  intro n
  induction n with
  | zero => intro _; rfl
  | succ n ih =>
    intro h
    simp only [wedS]
    rw [ih (fun j hj => h j (by omega)), h n (by omega)]
theorem sM_congr {m m' : Nat → Int32} : ∀ n, (∀ j, j < n → m j = m' j) → sM m n = sM m' n := by
  intro n
  induction n with
  | zero => intro _; rfl
  | succ n ih =>
    intro h
    simp only [sM]
    rw [ih (fun j hj => h j (by omega)), h n (by omega)]
section RefE
variable (G : Gx) (d : Nat) (I : Hi) (op bg en : Nat → Nat) (L : Nat)
theorem lp_weds1 {kx : Kx} {b : Nat} (w t : Nat) (hw : w < 8) (ht : t < 8) (hR : LawR (I 95) op bg en L) (x3 x4 x5 : Option Value)
    (k : ∀ g h, (∀ j, j < 4 → h j = moreV (I 95) op bg en L w t j) → Rn G GAM mX10_weds kx (d + 7) b 48 [some (.ref 94), some (.int (nI w)), some (.int (nI t)), x3, x4, x5, some (.int (nI 4))] [] (zset (zset I 102 g) 103 h)) :
    ∀ (n s : Nat) (g h : Nat → Int32), s + n = 4 → (∀ j, j < s → h j = moreV (I 95) op bg en L w t j) → Rn G GAM mX10_weds kx (d + 7) b 21 [some (.ref 94), some (.int (nI w)), some (.int (nI t)), x3, x4, x5, some (.int (nI s))] [] (zset (zset I 102 g) 103 h) := by
  intro n
  induction n with
  | zero =>
    intro s g h hs hh
    obtain rfl : s = 4 := by omega
    refine Rn.iload dX10_weds_21 rfl ?_
    refine Rn.iconst (v := (nI 4)) dX10_weds_23 rfl ?_
    refine Rn.icmp_geN dX10_weds_24 48 (fun _ => ?_) (fun h9 => by exfalso; omega)
    exact k g h hh
  | succ n ih =>
    intro s g h hs hh
    refine Rn.iload dX10_weds_21 rfl ?_
    refine Rn.iconst (v := (nI 4)) dX10_weds_23 rfl ?_
    refine Rn.icmp_geN dX10_weds_24 48 (fun h9 => by exfalso; omega) (fun _ => ?_)
    refine Rn.aload_n dX10_weds_27 rfl rfl ?_
    refine Rn.getR dX10_weds_28 fd_X10_42_9 (by first | rfl | exact gC0 (by assumption) | exact gL0 (by assumption)) rfl ?_
    refine Rn.iload dX10_weds_31 rfl ?_
    refine Rn.aload_n dX10_weds_33 rfl rfl ?_
    refine Rn.iload_n dX10_weds_34 rfl rfl ?_
    refine Rn.iload_n dX10_weds_35 rfl rfl ?_
    refine Rn.iload dX10_weds_36 rfl ?_
    refine Rn.callVe (As := [_, _, _]) dX10_weds_38 mv_X10_269 (by first | rfl | exact gC0 (by assumption) | exact gL0 (by assumption)) rfl rfl rfl (Nat.le_of_ble_eq_true rfl) (ct_moreOf G _ _ op bg en L _ _ _ (by omega) (by omega) (by omega) hR) (fun g2 => ?_)
    refine Rn.hpp _ (zs_a _ _ _ _) ?_
    refine Rn.iastN dX10_weds_41 (by first | rfl | exact gC1 (by assumption) | exact gC2 (by assumption) | exact gC3 (by assumption) | exact gL1 (by assumption) | exact gL2 (by assumption) | exact gL3 (by assumption) | exact gL4 (by assumption) | exact gL5 (by assumption) | exact gL6 (by assumption)) ?_
    refine Rn.iincN dX10_weds_42 rfl (by decide) ?_
    refine Rn.goto 21 dX10_weds_45 (by decide) ?_
    refine Rn.hpp _ (zup_zset _ _ _ _ _) (ih (s + 1) g2 _ (by omega) ?_)
    intro j hj
    simp only [upd]
    by_cases e : j = s
    · subst e; simp; rfl
    · rw [if_neg e]; exact hh j (by omega)
theorem lp_weds2 {kx : Kx} {b : Nat} (w t : Nat) (hw : w < 8) (ht : t < 8) (W0 g h : Nat → Int32) (x4 x5 : Option Value)
    (k : Rn G GAM mX10_weds kx (d + 7) b 115 [some (.ref 94), some (.int (nI w)), some (.int (nI t)), some (.int (sM h 4)), x4, x5, some (.int (nI 4))] [] (zset (zset (zset I 102 g) 103 h) 95 (wedS W0 h w t 4))) :
    ∀ (n s : Nat), s + n = 4 → Rn G GAM mX10_weds kx (d + 7) b 51 [some (.ref 94), some (.int (nI w)), some (.int (nI t)), some (.int (sM h s)), x4, x5, some (.int (nI s))] [] (zset (zset (zset I 102 g) 103 h) 95 (wedS W0 h w t s)) := by
  intro n
  induction n with
  | zero =>
    intro s hs
    obtain rfl : s = 4 := by omega
    refine Rn.iload dX10_weds_51 rfl ?_
    refine Rn.iconst (v := (nI 4)) dX10_weds_53 rfl ?_
    refine Rn.icmp_geN dX10_weds_54 115 (fun _ => ?_) (fun h9 => by exfalso; omega)
    exact k
  | succ n ih =>
    intro s hs
    refine Rn.iload dX10_weds_51 rfl ?_
    refine Rn.iconst (v := (nI 4)) dX10_weds_53 rfl ?_
    refine Rn.icmp_geN dX10_weds_54 115 (fun h9 => by exfalso; omega) (fun _ => ?_)
    refine Rn.aload_n dX10_weds_57 rfl rfl ?_
    refine Rn.getR dX10_weds_58 fd_X10_13_9 (by first | rfl | exact gC0 (by assumption) | exact gL0 (by assumption)) rfl ?_
    refine Rn.iload_n dX10_weds_61 rfl rfl ?_
    refine Rn.iload dX10_weds_62 rfl ?_
    refine Rn.callSp (As := [_, _]) dX10_weds_64 ms_X10_61 rfl rfl (Nat.le_of_ble_eq_true rfl) (ct_womanAt G _ _ _ _) ?_
    refine Rn.dup2 dX10_weds_67 rfl rfl ?_
    refine Rn.ialdN dX10_weds_68 (by first | rfl | exact gC1 (by assumption) | exact gC2 (by assumption) | exact gC3 (by assumption) | exact gL1 (by assumption) | exact gL2 (by assumption) | exact gL3 (by assumption) | exact gL4 (by assumption) | exact gL5 (by assumption) | exact gL6 (by assumption)) ?_
    refine Rn.aload_n dX10_weds_69 rfl rfl ?_
    refine Rn.getR dX10_weds_70 fd_X10_42_9 (by first | rfl | exact gC0 (by assumption) | exact gL0 (by assumption)) rfl ?_
    refine Rn.iload dX10_weds_73 rfl ?_
    refine Rn.ialdN dX10_weds_75 (by first | rfl | exact gC1 (by assumption) | exact gC2 (by assumption) | exact gC3 (by assumption) | exact gL1 (by assumption) | exact gL2 (by assumption) | exact gL3 (by assumption) | exact gL4 (by assumption) | exact gL5 (by assumption) | exact gL6 (by assumption)) ?_
    refine Rn.iadd dX10_weds_76 ?_
    refine Rn.iastN dX10_weds_77 (by first | rfl | exact gC1 (by assumption) | exact gC2 (by assumption) | exact gC3 (by assumption) | exact gL1 (by assumption) | exact gL2 (by assumption) | exact gL3 (by assumption) | exact gL4 (by assumption) | exact gL5 (by assumption) | exact gL6 (by assumption)) ?_
    refine Rn.aload_n dX10_weds_78 rfl rfl ?_
    refine Rn.getR dX10_weds_79 fd_X10_13_9 (by first | rfl | exact gC0 (by assumption) | exact gL0 (by assumption)) rfl ?_
    refine Rn.iload_n dX10_weds_82 rfl rfl ?_
    refine Rn.iload dX10_weds_83 rfl ?_
    refine Rn.callSp (As := [_, _]) dX10_weds_85 ms_X10_68 rfl rfl (Nat.le_of_ble_eq_true rfl) (ct_thingAt G _ _ _ _) ?_
    refine Rn.dup2 dX10_weds_88 rfl rfl ?_
    refine Rn.ialdN dX10_weds_89 (by first | rfl | exact gC1 (by assumption) | exact gC2 (by assumption) | exact gC3 (by assumption) | exact gL1 (by assumption) | exact gL2 (by assumption) | exact gL3 (by assumption) | exact gL4 (by assumption) | exact gL5 (by assumption) | exact gL6 (by assumption)) ?_
    refine Rn.aload_n dX10_weds_90 rfl rfl ?_
    refine Rn.getR dX10_weds_91 fd_X10_42_9 (by first | rfl | exact gC0 (by assumption) | exact gL0 (by assumption)) rfl ?_
    refine Rn.iload dX10_weds_94 rfl ?_
    refine Rn.ialdN dX10_weds_96 (by first | rfl | exact gC1 (by assumption) | exact gC2 (by assumption) | exact gC3 (by assumption) | exact gL1 (by assumption) | exact gL2 (by assumption) | exact gL3 (by assumption) | exact gL4 (by assumption) | exact gL5 (by assumption) | exact gL6 (by assumption)) ?_
    refine Rn.isub dX10_weds_97 ?_
    refine Rn.iastN dX10_weds_98 (by first | rfl | exact gC1 (by assumption) | exact gC2 (by assumption) | exact gC3 (by assumption) | exact gL1 (by assumption) | exact gL2 (by assumption) | exact gL3 (by assumption) | exact gL4 (by assumption) | exact gL5 (by assumption) | exact gL6 (by assumption)) ?_
    refine Rn.iload_n dX10_weds_99 rfl rfl ?_
    refine Rn.aload_n dX10_weds_100 rfl rfl ?_
    refine Rn.getR dX10_weds_101 fd_X10_42_9 (by first | rfl | exact gC0 (by assumption) | exact gL0 (by assumption)) rfl ?_
    refine Rn.iload dX10_weds_104 rfl ?_
    refine Rn.ialdN dX10_weds_106 (by first | rfl | exact gC1 (by assumption) | exact gC2 (by assumption) | exact gC3 (by assumption) | exact gL1 (by assumption) | exact gL2 (by assumption) | exact gL3 (by assumption) | exact gL4 (by assumption) | exact gL5 (by assumption) | exact gL6 (by assumption)) ?_
    refine Rn.iadd dX10_weds_107 ?_
    refine Rn.istore_n dX10_weds_108 rfl (by decide) ?_
    refine Rn.iincN dX10_weds_109 rfl (by decide) ?_
    refine Rn.goto 51 dX10_weds_112 (by decide) ?_
    refine Rn.hpp _ ?_ (ih (s + 1) (by omega))
    rw [zup_zset, zup_zset]
    rfl
theorem ct_weds (w t : Nat) (hw : w < 8) (ht : t < 8) (hR : LawR (I 95) op bg en L) : Ct G GAM mX10_weds (d + 7) 0 [.ref 94, .int (nI w), .int (nI t)] I (Rw (some (.int (gainV (I 95) op bg en L w t))) I (wedW (I 95) op bg en L w t)) := by
  refine Ct.mk [some (.ref 94), some (.int (nI w)), some (.int (nI t)), none, none, none, none] ?_
  refine Rn.iconst (v := (nI 0)) dX10_weds_0 rfl ?_
  refine Rn.istore_n dX10_weds_1 rfl (by decide) ?_
  refine Rn.aload_n dX10_weds_2 rfl rfl ?_
  refine Rn.iload_n dX10_weds_3 rfl rfl ?_
  refine Rn.iload_n dX10_weds_4 rfl rfl ?_
  refine Rn.callVe (As := [_, _]) dX10_weds_5 mv_X10_296 (by first | rfl | exact gC0 (by assumption) | exact gL0 (by assumption)) rfl rfl rfl (Nat.le_of_ble_eq_true rfl) (ct_wearsBy G _ _ op bg en L _ _ (by omega) (by omega) hR) (fun g1 => ?_)
  refine Rn.istore dX10_weds_8 (by decide) ?_
  refine Rn.aload_n dX10_weds_10 rfl rfl ?_
  refine Rn.iload_n dX10_weds_11 rfl rfl ?_
  refine Rn.iload_n dX10_weds_12 rfl rfl ?_
  refine Rn.callVe (As := [_, _]) dX10_weds_13 mv_X10_299 (by first | rfl | exact gC0 (by assumption) | exact gL0 (by assumption)) rfl rfl rfl (Nat.le_of_ble_eq_true rfl) (ct_sticksTo G _ _ op bg en L _ _ (by omega) (by omega) hR) (fun g2 => ?_)
  refine Rn.hpp _ (zset_zset _ _ _ _) ?_
  refine Rn.istore dX10_weds_16 (by decide) ?_
  refine Rn.iconst (v := (nI 0)) dX10_weds_18 rfl ?_
  refine Rn.istore dX10_weds_19 (by decide) ?_
  refine Rn.hpp (zset (zset I 102 g2) 103 (I 103)) (zset_self (zset I 102 g2) 103).symm (lp_weds1 G d I op bg en L w t hw ht hR _ _ _ ?_ 4 0 g2 (I 103) rfl (fun j hj => by omega))
  intro g h hh
  refine Rn.iconst (v := (nI 0)) dX10_weds_48 rfl ?_
  refine Rn.istore dX10_weds_49 (by decide) ?_
  refine Rn.hpp (zset (zset (zset I 102 g) 103 h) 95 (wedS (I 95) h w t 0)) (zset_self (zset (zset I 102 g) 103 h) 95).symm (lp_weds2 G d I w t hw ht (I 95) g h _ _ ?_ 4 0 rfl)
  rw [wedS_congr (I 95) w t 4 hh, sM_congr 4 hh]
  have hsum : sM (moreV (I 95) op bg en L w t) 4 = gainV (I 95) op bg en L w t := by
    simp only [sM, gainV]; rw [show nI 0 = 0 from rfl, Int32.zero_add]
  rw [hsum]
  generalize hV : wedS (I 95) (moreV (I 95) op bg en L w t) w t 4 = V
  refine Rn.aload_n dX10_weds_115 rfl rfl ?_
  refine Rn.getR dX10_weds_116 fd_X10_13_9 (by first | rfl | exact gC0 (by assumption) | exact gL0 (by assumption)) rfl ?_
  refine Rn.iload_n dX10_weds_119 rfl rfl ?_
  refine Rn.bipush (v := (nI 6)) dX10_weds_120 rfl ?_
  refine Rn.callSp (As := [_, _]) dX10_weds_122 ms_X10_68 rfl rfl (Nat.le_of_ble_eq_true rfl) (ct_thingAt G _ _ _ _) ?_
  refine Rn.bipush (v := (nI 99)) dX10_weds_125 rfl ?_
  refine Rn.aload_n dX10_weds_127 rfl rfl ?_
  refine Rn.iload_n dX10_weds_128 rfl rfl ?_
  refine Rn.bipush (v := (nI 6)) dX10_weds_129 rfl ?_
  refine Rn.callVp (As := [_, _]) dX10_weds_131 mv_X10_71 (by first | rfl | exact gC0 (by assumption) | exact gL0 (by assumption)) rfl rfl rfl (Nat.le_of_ble_eq_true rfl) (ct_ofThing G _ _ _ _ (by omega)) ?_
  refine Rn.iload dX10_weds_134 rfl ?_
  refine Rn.iadd dX10_weds_136 ?_
  refine Rn.mmin dX10_weds_137 ms_X10_266 (Nat.le_of_ble_eq_true rfl) ?_
  refine Rn.iastN dX10_weds_140 (by first | rfl | exact gC1 (by assumption) | exact gC2 (by assumption) | exact gC3 (by assumption) | exact gL1 (by assumption) | exact gL2 (by assumption) | exact gL3 (by assumption) | exact gL4 (by assumption) | exact gL5 (by assumption) | exact gL6 (by assumption)) ?_
  refine Rn.hpp _ (zup_zset _ _ _ _ _) ?_
  generalize hX : upd V (65 + 9 * t + 6) _ = X
  have hX' : wedX (I 95) op bg en L w t = X := by rw [← hX, wedX, hV]; rfl
  refine Rn.iload dX10_weds_141 rfl ?_
  refine Rn.if_eqB dX10_weds_143 158 (fun h1 => ?_) (fun h1 => ?_)
  · have h1 : ¬ 0 < sumV (I 95) op bg en L (nI 2) w t 0 := h1
    refine Rn.aload_n dX10_weds_158 rfl rfl ?_
    refine Rn.getR dX10_weds_159 fd_X10_13_9 (by first | rfl | exact gC0 (by assumption) | exact gL0 (by assumption)) rfl ?_
    refine Rn.iload_n dX10_weds_162 rfl rfl ?_
    refine Rn.iconst (v := (nI 5)) dX10_weds_163 rfl ?_
    refine Rn.callSp (As := [_, _]) dX10_weds_164 ms_X10_61 rfl rfl (Nat.le_of_ble_eq_true rfl) (ct_womanAt G _ _ _ _) ?_
    refine Rn.bipush (v := (nI 9)) dX10_weds_167 rfl ?_
    refine Rn.aload_n dX10_weds_169 rfl rfl ?_
    refine Rn.iload_n dX10_weds_170 rfl rfl ?_
    refine Rn.iconst (v := (nI 5)) dX10_weds_171 rfl ?_
    refine Rn.callVp (As := [_, _]) dX10_weds_172 mv_X10_65 (by first | rfl | exact gC0 (by assumption) | exact gL0 (by assumption)) rfl rfl rfl (Nat.le_of_ble_eq_true rfl) (ct_of G _ _ _ _ (by omega)) ?_
    refine Rn.iconst (v := (nI 1)) dX10_weds_175 rfl ?_
    refine Rn.iadd dX10_weds_176 ?_
    refine Rn.mmin dX10_weds_177 ms_X10_266 (Nat.le_of_ble_eq_true rfl) ?_
    refine Rn.iastN dX10_weds_180 (by first | rfl | exact gC1 (by assumption) | exact gC2 (by assumption) | exact gC3 (by assumption) | exact gL1 (by assumption) | exact gL2 (by assumption) | exact gL3 (by assumption) | exact gL4 (by assumption) | exact gL5 (by assumption) | exact gL6 (by assumption)) ?_
    refine Rn.iload_n dX10_weds_181 rfl rfl ?_
    refine Rn.iret dX10_weds_182 rfl ⟨rfl, g, h, ?_⟩
    rw [zup_zset, wedW, wedY, if_neg h1, hX']
    rfl
  · have h1 : 0 < sumV (I 95) op bg en L (nI 2) w t 0 := h1
    refine Rn.aload_n dX10_weds_146 rfl rfl ?_
    refine Rn.getR dX10_weds_147 fd_X10_13_9 (by first | rfl | exact gC0 (by assumption) | exact gL0 (by assumption)) rfl ?_
    refine Rn.iload_n dX10_weds_150 rfl rfl ?_
    refine Rn.bipush (v := (nI 7)) dX10_weds_151 rfl ?_
    refine Rn.callSp (As := [_, _]) dX10_weds_153 ms_X10_68 rfl rfl (Nat.le_of_ble_eq_true rfl) (ct_thingAt G _ _ _ _) ?_
    refine Rn.iconst (v := (nI 1)) dX10_weds_156 rfl ?_
    refine Rn.iastN dX10_weds_157 (by first | rfl | exact gC1 (by assumption) | exact gC2 (by assumption) | exact gC3 (by assumption) | exact gL1 (by assumption) | exact gL2 (by assumption) | exact gL3 (by assumption) | exact gL4 (by assumption) | exact gL5 (by assumption) | exact gL6 (by assumption)) ?_
    refine Rn.hpp _ (zup_zset _ _ _ _ _) ?_
    refine Rn.aload_n dX10_weds_158 rfl rfl ?_
    refine Rn.getR dX10_weds_159 fd_X10_13_9 (by first | rfl | exact gC0 (by assumption) | exact gL0 (by assumption)) rfl ?_
    refine Rn.iload_n dX10_weds_162 rfl rfl ?_
    refine Rn.iconst (v := (nI 5)) dX10_weds_163 rfl ?_
    refine Rn.callSp (As := [_, _]) dX10_weds_164 ms_X10_61 rfl rfl (Nat.le_of_ble_eq_true rfl) (ct_womanAt G _ _ _ _) ?_
    refine Rn.bipush (v := (nI 9)) dX10_weds_167 rfl ?_
    refine Rn.aload_n dX10_weds_169 rfl rfl ?_
    refine Rn.iload_n dX10_weds_170 rfl rfl ?_
    refine Rn.iconst (v := (nI 5)) dX10_weds_171 rfl ?_
    refine Rn.callVp (As := [_, _]) dX10_weds_172 mv_X10_65 (by first | rfl | exact gC0 (by assumption) | exact gL0 (by assumption)) rfl rfl rfl (Nat.le_of_ble_eq_true rfl) (ct_of G _ _ _ _ (by omega)) ?_
    refine Rn.iconst (v := (nI 1)) dX10_weds_175 rfl ?_
    refine Rn.iadd dX10_weds_176 ?_
    refine Rn.mmin dX10_weds_177 ms_X10_266 (Nat.le_of_ble_eq_true rfl) ?_
    refine Rn.iastN dX10_weds_180 (by first | rfl | exact gC1 (by assumption) | exact gC2 (by assumption) | exact gC3 (by assumption) | exact gL1 (by assumption) | exact gL2 (by assumption) | exact gL3 (by assumption) | exact gL4 (by assumption) | exact gL5 (by assumption) | exact gL6 (by assumption)) ?_
    refine Rn.iload_n dX10_weds_181 rfl rfl ?_
    refine Rn.iret dX10_weds_182 rfl ⟨rfl, g, h, ?_⟩
    rw [zup_zset, wedW, wedY, if_pos h1, hX']
    rfl
end RefE
