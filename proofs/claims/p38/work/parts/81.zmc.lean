theorem dX10_readThing_96 : decode cX10_readThing 96 = .ok (.istore 4, 2) := by decide +kernel
theorem dX10_readThing_98 : decode cX10_readThing 98 = .ok (.iload 4, 2) := by decide +kernel
theorem dX10_readThing_100 : decode cX10_readThing 100 = .ok (.ifCond .ge 5, 3) := by decide +kernel
theorem dX10_readThing_105 : decode cX10_readThing 105 = .ok (.aload_n 0, 1) := by decide +kernel
theorem dX10_readThing_106 : decode cX10_readThing 106 = .ok (.getfield 13, 3) := by decide +kernel
theorem dX10_readThing_109 : decode cX10_readThing 109 = .ok (.iload_n 1, 1) := by decide +kernel
theorem dX10_readThing_110 : decode cX10_readThing 110 = .ok (.iconst 4, 1) := by decide +kernel
theorem dX10_readThing_111 : decode cX10_readThing 111 = .ok (.invokestatic 68, 3) := by decide +kernel
theorem dX10_readThing_114 : decode cX10_readThing 114 = .ok (.iload_n 2, 1) := by decide +kernel
theorem dX10_readThing_115 : decode cX10_readThing 115 = .ok (.iastore, 1) := by decide +kernel
theorem dX10_readThing_116 : decode cX10_readThing 116 = .ok (.aload_n 0, 1) := by decide +kernel
theorem dX10_readThing_117 : decode cX10_readThing 117 = .ok (.getfield 13, 3) := by decide +kernel
theorem dX10_readThing_120 : decode cX10_readThing 120 = .ok (.iload_n 1, 1) := by decide +kernel
theorem dX10_readThing_121 : decode cX10_readThing 121 = .ok (.iconst 5, 1) := by decide +kernel
theorem dX10_readThing_122 : decode cX10_readThing 122 = .ok (.invokestatic 68, 3) := by decide +kernel
theorem dX10_readThing_125 : decode cX10_readThing 125 = .ok (.iload 4, 2) := by decide +kernel
theorem dX10_readThing_127 : decode cX10_readThing 127 = .ok (.iastore, 1) := by decide +kernel
theorem dX10_readThing_128 : decode cX10_readThing 128 = .ok (.aload_n 0, 1) := by decide +kernel
theorem dX10_readThing_129 : decode cX10_readThing 129 = .ok (.getfield 13, 3) := by decide +kernel
theorem dX10_readThing_132 : decode cX10_readThing 132 = .ok (.iload_n 1, 1) := by decide +kernel
theorem dX10_readThing_133 : decode cX10_readThing 133 = .ok (.bipush 6, 2) := by decide +kernel
theorem dX10_readThing_135 : decode cX10_readThing 135 = .ok (.invokestatic 68, 3) := by decide +kernel
theorem dX10_readThing_138 : decode cX10_readThing 138 = .ok (.iload_n 3, 1) := by decide +kernel
theorem dX10_readThing_139 : decode cX10_readThing 139 = .ok (.iastore, 1) := by decide +kernel
theorem dX10_readThing_140 : decode cX10_readThing 140 = .ok (.aload_n 0, 1) := by decide +kernel
theorem dX10_readThing_141 : decode cX10_readThing 141 = .ok (.getfield 13, 3) := by decide +kernel
theorem dX10_readThing_144 : decode cX10_readThing 144 = .ok (.iload_n 1, 1) := by decide +kernel
theorem dX10_readThing_145 : decode cX10_readThing 145 = .ok (.bipush 7, 2) := by decide +kernel
theorem dX10_readThing_147 : decode cX10_readThing 147 = .ok (.invokestatic 68, 3) := by decide +kernel
theorem dX10_readThing_150 : decode cX10_readThing 150 = .ok (.iconst 0, 1) := by decide +kernel
theorem dX10_readThing_151 : decode cX10_readThing 151 = .ok (.iastore, 1) := by decide +kernel
theorem dX10_readThing_176 : decode cX10_readThing 176 = .ok (.iastore, 1) := by decide +kernel
theorem dX10_readThing_177 : decode cX10_readThing 177 = .ok (.aload_n 0, 1) := by decide +kernel
theorem dX10_readThing_178 : decode cX10_readThing 178 = .ok (.getfield 13, 3) := by decide +kernel
theorem dX10_readThing_181 : decode cX10_readThing 181 = .ok (.iconst 1, 1) := by decide +kernel
theorem dX10_readThing_182 : decode cX10_readThing 182 = .ok (.dup2, 1) := by decide +kernel
theorem dX10_readThing_183 : decode cX10_readThing 183 = .ok (.iaload, 1) := by decide +kernel
theorem dX10_readThing_184 : decode cX10_readThing 184 = .ok (.iconst 1, 1) := by decide +kernel
theorem dX10_readThing_185 : decode cX10_readThing 185 = .ok (.iadd, 1) := by decide +kernel
theorem dX10_readThing_186 : decode cX10_readThing 186 = .ok (.iastore, 1) := by decide +kernel
theorem dX10_readThing_187 : decode cX10_readThing 187 = .ok (.iconst 1, 1) := by decide +kernel
theorem dX10_readThing_188 : decode cX10_readThing 188 = .ok (.ireturn, 1) := by decide +kernel
theorem dX10_readThing_152 : decode cX10_readThing 152 = .ok (.aload_n 0, 1) := by decide +kernel
theorem dX10_readThing_153 : decode cX10_readThing 153 = .ok (.getfield 13, 3) := by decide +kernel
theorem dX10_readThing_156 : decode cX10_readThing 156 = .ok (.iload_n 1, 1) := by decide +kernel
theorem dX10_readThing_157 : decode cX10_readThing 157 = .ok (.bipush 8, 2) := by decide +kernel
theorem dX10_readThing_159 : decode cX10_readThing 159 = .ok (.invokestatic 68, 3) := by decide +kernel
theorem dX10_readThing_162 : decode cX10_readThing 162 = .ok (.aload_n 0, 1) := by decide +kernel
theorem dX10_readThing_163 : decode cX10_readThing 163 = .ok (.ldc 149, 2) := by decide +kernel
theorem dX10_readThing_165 : decode cX10_readThing 165 = .ok (.invokevirtual 139, 3) := by decide +kernel
theorem dX10_readThing_168 : decode cX10_readThing 168 = .ok (.ifCond .eq 7, 3) := by decide +kernel
theorem dX10_readThing_175 : decode cX10_readThing 175 = .ok (.iconst 0, 1) := by decide +kernel
theorem dX10_readThing_171 : decode cX10_readThing 171 = .ok (.iconst 1, 1) := by decide +kernel
theorem dX10_readThing_172 : decode cX10_readThing 172 = .ok (.goto 4, 3) := by decide +kernel
theorem dX10_readThing_65 : decode cX10_readThing 65 = .ok (.istore_n 3, 1) := by decide +kernel
theorem dX10_readThing_66 : decode cX10_readThing 66 = .ok (.iload_n 3, 1) := by decide +kernel
theorem dX10_readThing_67 : decode cX10_readThing 67 = .ok (.ifCond .ge 5, 3) := by decide +kernel
theorem dX10_readThing_72 : decode cX10_readThing 72 = .ok (.aload_n 0, 1) := by decide +kernel
theorem dX10_readThing_73 : decode cX10_readThing 73 = .ok (.ldc 147, 2) := by decide +kernel
theorem sm_X10_147 : (RX10, 147, "with", 1007) ∈ zSR := by decide +kernel
theorem dX10_readThing_75 : decode cX10_readThing 75 = .ok (.invokevirtual 139, 3) := by decide +kernel
theorem dX10_readThing_78 : decode cX10_readThing 78 = .ok (.ifCond .eq 17, 3) := by decide +kernel
theorem dX10_readThing_95 : decode cX10_readThing 95 = .ok (.iload_n 2, 1) := by decide +kernel
theorem dX10_readThing_81 : decode cX10_readThing 81 = .ok (.aload_n 0, 1) := by decide +kernel
theorem dX10_readThing_82 : decode cX10_readThing 82 = .ok (.iconst 0, 1) := by decide +kernel
theorem dX10_readThing_83 : decode cX10_readThing 83 = .ok (.aload_n 0, 1) := by decide +kernel
theorem dX10_readThing_84 : decode cX10_readThing 84 = .ok (.invokevirtual 74, 3) := by decide +kernel
theorem dX10_readThing_87 : decode cX10_readThing 87 = .ok (.iconst 1, 1) := by decide +kernel
theorem dX10_readThing_88 : decode cX10_readThing 88 = .ok (.isub, 1) := by decide +kernel
theorem dX10_readThing_89 : decode cX10_readThing 89 = .ok (.invokevirtual 121, 3) := by decide +kernel
theorem dX10_readThing_92 : decode cX10_readThing 92 = .ok (.goto 4, 3) := by decide +kernel
theorem dX10_readThing_103 : decode cX10_readThing 103 = .ok (.iconst 0, 1) := by decide +kernel
theorem dX10_readThing_104 : decode cX10_readThing 104 = .ok (.ireturn, 1) := by decide +kernel
theorem dX10_readThing_0 : decode cX10_readThing 0 = .ok (.aload_n 0, 1) := by decide +kernel
theorem dX10_readThing_1 : decode cX10_readThing 1 = .ok (.invokevirtual 82, 3) := by decide +kernel
theorem dX10_readThing_4 : decode cX10_readThing 4 = .ok (.istore_n 1, 1) := by decide +kernel
theorem dX10_readThing_5 : decode cX10_readThing 5 = .ok (.iload_n 1, 1) := by decide +kernel
theorem dX10_readThing_6 : decode cX10_readThing 6 = .ok (.bipush 8, 2) := by decide +kernel
theorem dX10_readThing_8 : decode cX10_readThing 8 = .ok (.if_icmp .eq 15, 3) := by decide +kernel
theorem dX10_readThing_23 : decode cX10_readThing 23 = .ok (.iconst 0, 1) := by decide +kernel
theorem dX10_readThing_24 : decode cX10_readThing 24 = .ok (.ireturn, 1) := by decide +kernel
theorem dX10_readThing_11 : decode cX10_readThing 11 = .ok (.aload_n 0, 1) := by decide +kernel
theorem dX10_readThing_12 : decode cX10_readThing 12 = .ok (.iload_n 1, 1) := by decide +kernel
theorem dX10_readThing_13 : decode cX10_readThing 13 = .ok (.iconst 0, 1) := by decide +kernel
theorem dX10_readThing_14 : decode cX10_readThing 14 = .ok (.invokestatic 68, 3) := by decide +kernel
theorem dX10_readThing_17 : decode cX10_readThing 17 = .ok (.invokevirtual 127, 3) := by decide +kernel
theorem dX10_readThing_20 : decode cX10_readThing 20 = .ok (.ifCond .ne 5, 3) := by decide +kernel
theorem dX10_readThing_25 : decode cX10_readThing 25 = .ok (.aload_n 0, 1) := by decide +kernel
theorem dX10_readThing_26 : decode cX10_readThing 26 = .ok (.ldc 144, 2) := by decide +kernel
theorem sm_X10_144 : (RX10, 144, "of", 1005) ∈ zSR := by decide +kernel
theorem dX10_readThing_28 : decode cX10_readThing 28 = .ok (.iconst 0, 1) := by decide +kernel
theorem dX10_readThing_29 : decode cX10_readThing 29 = .ok (.aload_n 0, 1) := by decide +kernel
theorem dX10_readThing_30 : decode cX10_readThing 30 = .ok (.invokevirtual 74, 3) := by decide +kernel
theorem dX10_readThing_33 : decode cX10_readThing 33 = .ok (.iconst 1, 1) := by decide +kernel
theorem dX10_readThing_34 : decode cX10_readThing 34 = .ok (.isub, 1) := by decide +kernel
theorem dX10_readThing_35 : decode cX10_readThing 35 = .ok (.invokevirtual 133, 3) := by decide +kernel
theorem dX10_readThing_38 : decode cX10_readThing 38 = .ok (.istore_n 2, 1) := by decide +kernel
theorem dX10_readThing_39 : decode cX10_readThing 39 = .ok (.iload_n 2, 1) := by decide +kernel
theorem dX10_readThing_40 : decode cX10_readThing 40 = .ok (.ifCond .ge 5, 3) := by decide +kernel
theorem dX10_readThing_43 : decode cX10_readThing 43 = .ok (.iconst 0, 1) := by decide +kernel
theorem dX10_readThing_44 : decode cX10_readThing 44 = .ok (.ireturn, 1) := by decide +kernel
theorem dX10_readThing_45 : decode cX10_readThing 45 = .ok (.aload_n 0, 1) := by decide +kernel
theorem dX10_readThing_46 : decode cX10_readThing 46 = .ok (.ldc 145, 2) := by decide +kernel
theorem sm_X10_145 : (RX10, 145, "worn", 1006) ∈ zSR := by decide +kernel
theorem dX10_readThing_48 : decode cX10_readThing 48 = .ok (.invokevirtual 139, 3) := by decide +kernel
theorem dX10_readThing_51 : decode cX10_readThing 51 = .ok (.ifCond .eq 13, 3) := by decide +kernel
theorem dX10_readThing_64 : decode cX10_readThing 64 = .ok (.iconst 0, 1) := by decide +kernel
theorem dX10_readThing_54 : decode cX10_readThing 54 = .ok (.aload_n 0, 1) := by decide +kernel
theorem dX10_readThing_55 : decode cX10_readThing 55 = .ok (.iconst 0, 1) := by decide +kernel
theorem dX10_readThing_56 : decode cX10_readThing 56 = .ok (.bipush 99, 2) := by decide +kernel
theorem dX10_readThing_58 : decode cX10_readThing 58 = .ok (.invokevirtual 121, 3) := by decide +kernel
theorem dX10_readThing_61 : decode cX10_readThing 61 = .ok (.goto 4, 3) := by decide +kernel
theorem dX10_readThing_70 : decode cX10_readThing 70 = .ok (.iconst 0, 1) := by decide +kernel
theorem dX10_readThing_71 : decode cX10_readThing 71 = .ok (.ireturn, 1) := by decide +kernel
/-! the reference's reader of the coast: things, lines, the text -/
section Rct
variable (G : Gx) (d : Nat) {c : Nat → Nat} {e : Nat}
abbrev blB (c : Nat → Nat) (e q : Nat) : Int32 := if wv c e q = 78501 then nI 1 else nI 0
theorem rk_t3 (I : Hi) (V0 : Nat → Int32) (w t : Nat) (b : Nat → Int32) (q s : Nat) (ht : t < 8) (hT : TY I c e) (x y z : Int32) (x4 : Option Value) (hx : inIv (0, 7) x) (hz7 : inIv (0, 7) z) (p b0 : Nat) (V : Nat → Int32) (hp : p ≤ e) (hV : WV V0 w t b V) (q0 : Nat) (h0 : bl c e p = q0) (o : Nat ⊕ (Cs × Nat)) (ho : Sum.inr ((w, t + 1, upd b t (blB c e q0)), cFlag c e 78501 q0) = o) : Rn G GAM mX10_readThing (kM G GAM (Rv (RLc c e V0 I q s o))) (d + 6) 0 96 [some (.ref 94), some (.int (nI t)), some (.int x), some (.int y), x4] [.int z] (PS I p b0 q s V) := by
  have he := hT.1
  have hz0 : ¬ z < 0 := fun q => by
    have a : (0 : Int) ≤ z.toInt := hz7.1
    have := Int32.lt_iff_toInt_lt.mp q
    rw [Int32.toInt_zero] at this
    omega
  have hV1 := hV.up (j := 65 + 9 * t + 4) (x := x) (by omega) (by omega) (fun k hk => by omega) (by rw [(wbx_O ht).1]; exact hx)
  have hV2 := hV1.up (j := 65 + 9 * t + 5) (x := z) (by omega) (by omega) (fun k hk => by omega) (by rw [(wbx_O ht).2]; exact ivH2 hz7)
  have hV3 := hV2.up (j := 65 + 9 * t + 6) (x := y) (by omega) (by omega) (fun k hk => by omega) (by rw [wbx_F (by omega)]; exact inIv_F _)
  have hV4 := hV3.up (j := 65 + 9 * t + 7) (x := nI 0) (by omega) (by omega) (fun k hk => by omega) (by rw [wbx_F (by omega)]; exact inIv_F _)
  refine Rn.istore dX10_readThing_96 (by decide) ?_
  refine Rn.iload dX10_readThing_98 rfl ?_
  refine Rn.if_ge (tgt := 105) dX10_readThing_100 (by decide) (fun _ => ?_) (fun h9 => by exfalso; exact h9 (Int32.not_lt.mp hz0))
  refine Rn.aload_n dX10_readThing_105 rfl rfl ?_
  refine Rn.getR dX10_readThing_106 fd_X10_13_9 (by first | rfl | exact gC0 (by assumption) | exact gL0 (by assumption)) rfl ?_
  refine Rn.iload_n dX10_readThing_109 rfl rfl ?_
  refine Rn.iconst (v := (nI 4)) dX10_readThing_110 rfl ?_
  refine Rn.callSp (As := [_, _]) dX10_readThing_111 ms_X10_68 rfl rfl (Nat.le_of_ble_eq_true rfl) (ct_thingAt G _ _ _ _) ?_
  refine Rn.iload_n dX10_readThing_114 rfl rfl ?_
  refine Rn.iastN dX10_readThing_115 (by first | rfl | exact gC1 (by assumption) | exact gC2 (by assumption) | exact gC3 (by assumption) | exact gL1 (by assumption) | exact gL2 (by assumption) | exact gL3 (by assumption) | exact gL4 (by assumption) | exact gL5 (by assumption) | exact gL6 (by assumption)) ?_
  refine Rn.hpp _ (PS_95 _ _ _ _ _ _ _ _) ?_
  refine Rn.aload_n dX10_readThing_116 rfl rfl ?_
  refine Rn.getR dX10_readThing_117 fd_X10_13_9 (by first | rfl | exact gC0 (by assumption) | exact gL0 (by assumption)) rfl ?_
  refine Rn.iload_n dX10_readThing_120 rfl rfl ?_
  refine Rn.iconst (v := (nI 5)) dX10_readThing_121 rfl ?_
  refine Rn.callSp (As := [_, _]) dX10_readThing_122 ms_X10_68 rfl rfl (Nat.le_of_ble_eq_true rfl) (ct_thingAt G _ _ _ _) ?_
  refine Rn.iload dX10_readThing_125 rfl ?_
  refine Rn.iastN dX10_readThing_127 (by first | rfl | exact gC1 (by assumption) | exact gC2 (by assumption) | exact gC3 (by assumption) | exact gL1 (by assumption) | exact gL2 (by assumption) | exact gL3 (by assumption) | exact gL4 (by assumption) | exact gL5 (by assumption) | exact gL6 (by assumption)) ?_
  refine Rn.hpp _ (PS_95 _ _ _ _ _ _ _ _) ?_
  refine Rn.aload_n dX10_readThing_128 rfl rfl ?_
  refine Rn.getR dX10_readThing_129 fd_X10_13_9 (by first | rfl | exact gC0 (by assumption) | exact gL0 (by assumption)) rfl ?_
  refine Rn.iload_n dX10_readThing_132 rfl rfl ?_
  refine Rn.bipush (v := (nI 6)) dX10_readThing_133 rfl ?_
  refine Rn.callSp (As := [_, _]) dX10_readThing_135 ms_X10_68 rfl rfl (Nat.le_of_ble_eq_true rfl) (ct_thingAt G _ _ _ _) ?_
  refine Rn.iload_n dX10_readThing_138 rfl rfl ?_
  refine Rn.iastN dX10_readThing_139 (by first | rfl | exact gC1 (by assumption) | exact gC2 (by assumption) | exact gC3 (by assumption) | exact gL1 (by assumption) | exact gL2 (by assumption) | exact gL3 (by assumption) | exact gL4 (by assumption) | exact gL5 (by assumption) | exact gL6 (by assumption)) ?_
  refine Rn.hpp _ (PS_95 _ _ _ _ _ _ _ _) ?_
  refine Rn.aload_n dX10_readThing_140 rfl rfl ?_
  refine Rn.getR dX10_readThing_141 fd_X10_13_9 (by first | rfl | exact gC0 (by assumption) | exact gL0 (by assumption)) rfl ?_
  refine Rn.iload_n dX10_readThing_144 rfl rfl ?_
  refine Rn.bipush (v := (nI 7)) dX10_readThing_145 rfl ?_
  refine Rn.callSp (As := [_, _]) dX10_readThing_147 ms_X10_68 rfl rfl (Nat.le_of_ble_eq_true rfl) (ct_thingAt G _ _ _ _) ?_
  refine Rn.iconst (v := (nI 0)) dX10_readThing_150 rfl ?_
  refine Rn.iastN dX10_readThing_151 (by first | rfl | exact gC1 (by assumption) | exact gC2 (by assumption) | exact gC3 (by assumption) | exact gL1 (by assumption) | exact gL2 (by assumption) | exact gL3 (by assumption) | exact gL4 (by assumption) | exact gL5 (by assumption) | exact gL6 (by assumption)) ?_
  refine Rn.hpp _ (PS_95 _ _ _ _ _ _ _ _) ?_
  have fin : ∀ (f : Int32) (p2 b2 : Nat), f = blB c e q0 → p2 ≤ e → b2 ≤ e → bl c e p2 = cFlag c e 78501 q0 → Rn G GAM mX10_readThing (kM G GAM (Rv (RLc c e V0 I q s o))) (d + 6) 0 176 [some (.ref 94), some (.int (nI t)), some (.int x), some (.int y), some (.int z)] [.int f, .int (nI (65 + 9 * t + 8)), .ref 95] (PS I p2 b2 q s (upd (upd (upd (upd V (65 + 9 * t + 4) x) (65 + 9 * t + 5) z) (65 + 9 * t + 6) y) (65 + 9 * t + 7) (nI 0))) := by
    intro f p2 b2 hf g1 g2 g3
    have hV5 := hV4.up (j := 65 + 9 * t + 8) (x := f) (by omega) (by omega) (fun k hk => by omega) (by rw [wbx_F (by omega)]; exact inIv_F _)
    have hV6 := hV5.thing ht (x := f) (by rw [show 73 + 9 * t = 65 + 9 * t + 8 by omega, upd_at])
    rw [hf] at hV6
    refine Rn.iastN dX10_readThing_176 (by first | rfl | exact gC1 (by assumption) | exact gC2 (by assumption) | exact gC3 (by assumption) | exact gL1 (by assumption) | exact gL2 (by assumption) | exact gL3 (by assumption) | exact gL4 (by assumption) | exact gL5 (by assumption) | exact gL6 (by assumption)) ?_
    refine Rn.hpp _ (PS_95 _ _ _ _ _ _ _ _) ?_
    refine Rn.aload_n dX10_readThing_177 rfl rfl ?_
    refine Rn.getR dX10_readThing_178 fd_X10_13_9 (by first | rfl | exact gC0 (by assumption) | exact gL0 (by assumption)) rfl ?_
    refine Rn.iconst (v := (nI 1)) dX10_readThing_181 rfl ?_
    refine Rn.dup2 dX10_readThing_182 rfl rfl ?_
    refine Rn.ialdN dX10_readThing_183 (by first | rfl | exact gC1 (by assumption) | exact gC2 (by assumption) | exact gC3 (by assumption) | exact gL1 (by assumption) | exact gL2 (by assumption) | exact gL3 (by assumption) | exact gL4 (by assumption) | exact gL5 (by assumption) | exact gL6 (by assumption)) ?_
    refine Rn.topI (nI t) (by exact hV5.2.2.1) ?_
    refine Rn.iconst (v := (nI 1)) dX10_readThing_184 rfl ?_
    refine Rn.iadd dX10_readThing_185 ?_
    refine Rn.topI (nI (t + 1)) (by exact nI_1 t) ?_
    refine Rn.iastN dX10_readThing_186 (by first | rfl | exact gC1 (by assumption) | exact gC2 (by assumption) | exact gC3 (by assumption) | exact gL1 (by assumption) | exact gL2 (by assumption) | exact gL3 (by assumption) | exact gL4 (by assumption) | exact gL5 (by assumption) | exact gL6 (by assumption)) ?_
    refine Rn.hpp _ (PS_95 _ _ _ _ _ _ _ _) ?_
    subst hf
    refine Rn.iconst (v := (nI 1)) dX10_readThing_187 rfl ?_
    exact Rn.zret dX10_readThing_188 rfl rfl (⟨p2, b2, _, rfl, g1, g2, Or.inr ⟨(w, t + 1, upd b t (blB c e q0)), rfl, by rw [g3]; exact ho.symm, hV6⟩⟩)
  refine Rn.aload_n dX10_readThing_152 rfl rfl ?_
  refine Rn.getR dX10_readThing_153 fd_X10_13_9 (by first | rfl | exact gC0 (by assumption) | exact gL0 (by assumption)) rfl ?_
  refine Rn.iload_n dX10_readThing_156 rfl rfl ?_
  refine Rn.bipush (v := (nI 8)) dX10_readThing_157 rfl ?_
  refine Rn.callSp (As := [_, _]) dX10_readThing_159 ms_X10_68 rfl rfl (Nat.le_of_ble_eq_true rfl) (ct_thingAt G _ _ _ _) ?_
  refine Rn.aload_n dX10_readThing_162 rfl rfl ?_
  refine Rn.ldcS dX10_readThing_163 sm_X10_149 ?_
  refine Rn.callV (As := [_]) dX10_readThing_165 mv_X10_139 (by first | rfl | exact gC0 (by assumption) | exact gL0 (by assumption)) rfl rfl rfl (Nat.le_of_ble_eq_true rfl) (cx_passes G d (PS I p b0 q s _) 8 p (by decide) hT.ps hp (by rfl)) (fun _ _ h => h) (fun v J h => ?_)
  rcases h with ⟨rfl, p2, r1, r2, rfl, r3, r4⟩ | ⟨rfl, p2, b2, r1, r2, r3, rfl, r4, r5, r6⟩
  · rw [h0] at r3
    subst r3
    rw [hz_8] at r4
    refine Rn.hpp _ (PS_PB _ _ _ _ _ _ _ _) ?_
    refine Rn.if_eq (tgt := 175) dX10_readThing_168 (by decide) (fun _ => ?_) (fun h9 => absurd h9 (by decide))
    refine Rn.iconst (v := (nI 0)) dX10_readThing_175 rfl ?_
    exact fin (nI 0) p2 p2 (if_neg r4).symm r2 r2 (by rw [show cFlag c e 78501 p2 = p2 from if_neg r4, ← h0, bl_bl])
  · rw [h0] at r4
    subst r4
    rw [hz_8] at r5
    refine Rn.hpp _ (PS_PB _ _ _ _ _ _ _ _) ?_
    refine Rn.if_eq (tgt := 175) dX10_readThing_168 (by decide) (fun h9 => absurd h9 (by decide)) (fun _ => ?_)
    refine Rn.iconst (v := (nI 1)) dX10_readThing_171 rfl ?_
    refine Rn.goto 176 dX10_readThing_172 (by decide) ?_
    exact fin (nI 1) p2 b2 (if_pos r5).symm r3 (by omega) (by rw [show cFlag c e 78501 b2 = nx c e b2 from if_pos r5, r6])
theorem rk_t2 (I : Hi) (V0 : Nat → Int32) (w t : Nat) (b : Nat → Int32) (q s : Nat) (ht : t < 8) (hT : TY I c e) (x y : Int32) (x3 x4 : Option Value) (hx : inIv (0, 7) x) (hy : nI 0 ≤ y) (p b0 : Nat) (V : Nat → Int32) (hp : p ≤ e) (hV : WV V0 w t b V) (q0 : Nat) (h0 : bl c e p = q0) (o : Nat ⊕ (Cs × Nat)) (ho : cMap (cOpt c e 763528 (nI w - nI 1) q0) (fun q1 => ((w, t + 1, upd b t (blB c e q1)), cFlag c e 78501 q1)) = o) : Rn G GAM mX10_readThing (kM G GAM (Rv (RLc c e V0 I q s o))) (d + 6) 0 65 [some (.ref 94), some (.int (nI t)), some (.int x), x3, x4] [.int y] (PS I p b0 q s V) := by
  have he := hT.1
  have hw8 := hV.2.2.2.2.2.2.2.1
  refine Rn.istore_n dX10_readThing_65 rfl (by decide) ?_
  refine Rn.iload_n dX10_readThing_66 rfl rfl ?_
  refine Rn.if_ge (tgt := 72) dX10_readThing_67 (by decide) (fun _ => ?_) (fun h9 => by exfalso; exact h9 hy)
  refine Rn.aload_n dX10_readThing_72 rfl rfl ?_
  refine Rn.ldcS dX10_readThing_73 sm_X10_147 ?_
  refine Rn.callV (As := [_]) dX10_readThing_75 mv_X10_139 (by first | rfl | exact gC0 (by assumption) | exact gL0 (by assumption)) rfl rfl rfl (Nat.le_of_ble_eq_true rfl) (cx_passes G d (PS I p b0 q s V) 7 p (by decide) hT.ps hp (by rfl)) (fun _ _ h => h) (fun v J h => ?_)
  rcases h with ⟨rfl, p2, r1, r2, rfl, r3, r4⟩ | ⟨rfl, p2, b2, r1, r2, r3, rfl, r4, r5, r6⟩
  · rw [h0] at r3
    subst r3
    rw [hz_7] at r4
    rw [cMap_r (show cOpt c e 763528 (nI w - nI 1) p2 = .inr p2 from if_neg r4)] at ho
    refine Rn.hpp _ (PS_PB _ _ _ _ _ _ _ _) ?_
    refine Rn.if_eq (tgt := 95) dX10_readThing_78 (by decide) (fun _ => ?_) (fun h9 => absurd h9 (by decide))
    refine Rn.iload_n dX10_readThing_95 rfl rfl ?_
    exact rk_t3 G d I V0 w t b q s ht hT x y x _ hx hx p2 p2 V r2 hV p2 (by rw [← h0, bl_bl]) o ho
  · rw [h0] at r4
    subst r4
    rw [hz_7] at r5
    rw [show cOpt c e 763528 (nI w - nI 1) b2 = gNum c e (nI w - nI 1) (nx c e b2) from if_pos r5] at ho
    refine Rn.hpp _ (PS_PB _ _ _ _ _ _ _ _) ?_
    refine Rn.if_eq (tgt := 95) dX10_readThing_78 (by decide) (fun h9 => absurd h9 (by decide)) (fun _ => ?_)
    refine Rn.aload_n dX10_readThing_81 rfl rfl ?_
    refine Rn.iconst (v := (nI 0)) dX10_readThing_82 rfl ?_
    refine Rn.aload_n dX10_readThing_83 rfl rfl ?_
    refine Rn.callVp (As := []) dX10_readThing_84 mv_X10_74 (by first | rfl | exact gC0 (by assumption) | exact gL0 (by assumption)) rfl rfl rfl (Nat.le_of_ble_eq_true rfl) (ct_women G _ _) ?_
    refine Rn.topI (nI w) (by exact hV.2.1) ?_
    refine Rn.iconst (v := (nI 1)) dX10_readThing_87 rfl ?_
    refine Rn.isub dX10_readThing_88 ?_
    refine Rn.callV (As := [_, _]) dX10_readThing_89 mv_X10_121 (by first | rfl | exact gC0 (by assumption) | exact gL0 (by assumption)) rfl rfl rfl (Nat.le_of_ble_eq_true rfl) (cx_numI G (d + 3) (PS I p2 b2 q s V) (nI w - nI 1) p2 hT.ps r3 (by rfl)) (fun _ _ h => h) (fun v J h => ?_)
    obtain ⟨p4, b4, z1, z2, rfl, z3, hz⟩ := h
    rw [r6] at z3
    rw [← z3] at ho
    refine Rn.hpp _ (PS_PB _ _ _ _ _ _ _ _) ?_
    rcases hz with ⟨rfl, z4⟩ | ⟨z, rfl, z4, z5, z6⟩
    · rw [cMap_l z4] at ho
      refine Rn.goto 96 dX10_readThing_92 (by decide) ?_
      refine Rn.istore dX10_readThing_96 (by decide) ?_
      refine Rn.iload dX10_readThing_98 rfl ?_
      refine Rn.if_ge (tgt := 105) dX10_readThing_100 (by decide) (fun h9 => absurd h9 (by decide)) (fun _ => ?_)
      refine Rn.iconst (v := (nI 0)) dX10_readThing_103 rfl ?_
      exact Rn.zret dX10_readThing_104 rfl rfl (⟨p4, b4, V, rfl, z1, z2, Or.inl ⟨rfl, ho.symm, w, t, b, hV⟩⟩)
    · rw [cMap_r z6] at ho
      refine Rn.goto 96 dX10_readThing_92 (by decide) ?_
      exact rk_t3 G d I V0 w t b q s ht hT x y z _ hx (ivH hw8 z4 z5) p4 b4 V z1 hV (bl c e p4) rfl o ho
theorem rk_thing (I : Hi) (V0 : Nat → Int32) (w t : Nat) (b : Nat → Int32) (q s : Nat) (p b0 : Nat) (V : Nat → Int32) (hT : TY I c e) (hp : p ≤ e) (hb : b0 ≤ e) (hV : WV V0 w t b V) (q0 : Nat) (h0 : bl c e p = q0) : Ct G GAM mX10_readThing (d + 6) 0 [.ref 94] (PS I p b0 q s V) (Rv (RLc c e V0 I q s (if t < 8 then cMap (cThing c e w q0) (fun q1 => ((w, t + 1, upd b t (blB c e q1)), cFlag c e 78501 q1)) else .inl b0))) := by
  have he := hT.1
  have hw8 := hV.2.2.2.2.2.2.2.1
  have ht8 := hV.2.2.2.2.2.2.2.2
  refine Ct.mk [some (.ref 94), none, none, none, none] ?_
  refine Rn.aload_n dX10_readThing_0 rfl rfl ?_
  refine Rn.callVp (As := []) dX10_readThing_1 mv_X10_82 (by first | rfl | exact gC0 (by assumption) | exact gL0 (by assumption)) rfl rfl rfl (Nat.le_of_ble_eq_true rfl) (ct_things G _ _) ?_
  refine Rn.topI (nI t) (by exact hV.2.2.1) ?_
  refine Rn.istore_n dX10_readThing_4 rfl (by decide) ?_
  refine Rn.iload_n dX10_readThing_5 rfl rfl ?_
  refine Rn.bipush (v := (nI 8)) dX10_readThing_6 rfl ?_
  refine Rn.icmp_eqN dX10_readThing_8 23 (fun h1 => ?_) (fun h1 => ?_)
  · rw [if_neg (by omega)]
    refine Rn.iconst (v := (nI 0)) dX10_readThing_23 rfl ?_
    exact Rn.zret dX10_readThing_24 rfl rfl (⟨p, b0, V, rfl, hp, hb, Or.inl ⟨rfl, rfl, w, t, b, hV⟩⟩)
  · have ht : t < 8 := by omega
    rw [if_pos ht]
    refine Rn.aload_n dX10_readThing_11 rfl rfl ?_
    refine Rn.iload_n dX10_readThing_12 rfl rfl ?_
    refine Rn.iconst (v := (nI 0)) dX10_readThing_13 rfl ?_
    refine Rn.callSp (As := [_, _]) dX10_readThing_14 ms_X10_68 rfl rfl (Nat.le_of_ble_eq_true rfl) (ct_thingAt G _ _ _ _) ?_
    refine Rn.callV (As := [_]) dX10_readThing_17 mv_X10_127 (by first | rfl | exact gC0 (by assumption) | exact gL0 (by assumption)) rfl rfl rfl (Nat.le_of_ble_eq_true rfl) (rk_luck G (d + 1) I V0 w t b q s (65 + 9 * t + 0) (by omega) (by omega) (fun k i hi hk => by omega) (fun i hi => wbx_L (by omega)) p b0 V hT hp hb hV q0 h0) (fun _ _ h => h) (fun v J h => ?_)
    obtain ⟨p1, b1, V1, rfl, r1, r2, r3, ⟨rfl, r4⟩ | ⟨rfl, r4⟩⟩ := h
    · have ho : cThing c e w q0 = .inl b1 := gB_l r4
      refine Rn.if_ne (tgt := 25) dX10_readThing_20 (by decide) (fun h9 => absurd h9 (by decide)) (fun _ => ?_)
      refine Rn.iconst (v := (nI 0)) dX10_readThing_23 rfl ?_
      exact Rn.zret dX10_readThing_24 rfl rfl (⟨p1, b1, V1, rfl, r1, r2, Or.inl ⟨rfl, cMap_l ho, w, t, b, r3⟩⟩)
    · have ho : cThing c e w q0 = gB (cReq c e 486 (nI w - nI 1) (bl c e p1)) (fun q2 => gB (cOpt c e 769614 (nI 99) q2) (fun q3 => cOpt c e 763528 (nI w - nI 1) q3)) := gB_r r4
      rw [ho]
      refine Rn.if_ne (tgt := 25) dX10_readThing_20 (by decide) (fun _ => ?_) (fun h9 => absurd h9 (by decide))
      refine Rn.aload_n dX10_readThing_25 rfl rfl ?_
      refine Rn.ldcS dX10_readThing_26 sm_X10_144 ?_
      refine Rn.iconst (v := (nI 0)) dX10_readThing_28 rfl ?_
      refine Rn.aload_n dX10_readThing_29 rfl rfl ?_
      refine Rn.callVp (As := []) dX10_readThing_30 mv_X10_74 (by first | rfl | exact gC0 (by assumption) | exact gL0 (by assumption)) rfl rfl rfl (Nat.le_of_ble_eq_true rfl) (ct_women G _ _) ?_
      refine Rn.topI (nI w) (by exact r3.2.1) ?_
      refine Rn.iconst (v := (nI 1)) dX10_readThing_33 rfl ?_
      refine Rn.isub dX10_readThing_34 ?_
      refine Rn.callV (As := [_, _, _]) dX10_readThing_35 mv_X10_133 (by first | rfl | exact gC0 (by assumption) | exact gL0 (by assumption)) rfl rfl rfl (Nat.le_of_ble_eq_true rfl) (cx_after G d (PS I p1 b1 q s V1) 5 (nI w - nI 1) (by decide) p1 hT.ps r1 (by rfl)) (fun _ _ h => h) (fun v J h => ?_)
      obtain ⟨p2, b2, u1, u2, rfl, hu⟩ := h
      rw [hz_5] at hu
      refine Rn.hpp _ (PS_PB _ _ _ _ _ _ _ _) ?_
      rcases hu with ⟨rfl, u3⟩ | ⟨x, rfl, u3, u4, u5⟩
      · rw [gB_l u3]
        refine Rn.istore_n dX10_readThing_38 rfl (by decide) ?_
        refine Rn.iload_n dX10_readThing_39 rfl rfl ?_
        refine Rn.if_ge (tgt := 45) dX10_readThing_40 (by decide) (fun h9 => absurd h9 (by decide)) (fun _ => ?_)
        refine Rn.iconst (v := (nI 0)) dX10_readThing_43 rfl ?_
        exact Rn.zret dX10_readThing_44 rfl rfl (⟨p2, b2, V1, rfl, u1, u2, Or.inl ⟨rfl, rfl, w, t, b, r3⟩⟩)
      · have hx := ivH hw8 u3 u4
        rw [gB_r u5]
        refine Rn.istore_n dX10_readThing_38 rfl (by decide) ?_
        refine Rn.iload_n dX10_readThing_39 rfl rfl ?_
        refine Rn.if_ge (tgt := 45) dX10_readThing_40 (by decide) (fun _ => ?_) (fun h9 => by exfalso; exact h9 u3)
        refine Rn.aload_n dX10_readThing_45 rfl rfl ?_
        refine Rn.ldcS dX10_readThing_46 sm_X10_145 ?_
        refine Rn.callV (As := [_]) dX10_readThing_48 mv_X10_139 (by first | rfl | exact gC0 (by assumption) | exact gL0 (by assumption)) rfl rfl rfl (Nat.le_of_ble_eq_true rfl) (cx_passes G d (PS I p2 b2 q s V1) 6 p2 (by decide) hT.ps u1 (by rfl)) (fun _ _ h => h) (fun v J h => ?_)
        rcases h with ⟨rfl, p3, y1, y2, rfl, y3, y4⟩ | ⟨rfl, p3, b3, y1, y2, y3, rfl, y4, y5, y6⟩
        · rw [hz_6] at y4
          rw [← y3, gB_r (show cOpt c e 769614 (nI 99) p3 = .inr p3 from if_neg y4)]
          refine Rn.hpp _ (PS_PB _ _ _ _ _ _ _ _) ?_
          refine Rn.if_eq (tgt := 64) dX10_readThing_51 (by decide) (fun _ => ?_) (fun h9 => absurd h9 (by decide))
          refine Rn.iconst (v := (nI 0)) dX10_readThing_64 rfl ?_
          exact rk_t2 G d I V0 w t b q s ht hT x (nI 0) _ _ hx (by decide) p3 p3 V1 y2 r3 p3 (by rw [y3, bl_bl]) _ rfl
        · rw [hz_6] at y5
          rw [← y4, show cOpt c e 769614 (nI 99) b3 = gNum c e (nI 99) (nx c e b3) from if_pos y5]
          refine Rn.hpp _ (PS_PB _ _ _ _ _ _ _ _) ?_
          refine Rn.if_eq (tgt := 64) dX10_readThing_51 (by decide) (fun h9 => absurd h9 (by decide)) (fun _ => ?_)
          refine Rn.aload_n dX10_readThing_54 rfl rfl ?_
          refine Rn.iconst (v := (nI 0)) dX10_readThing_55 rfl ?_
          refine Rn.bipush (v := (nI 99)) dX10_readThing_56 rfl ?_
          refine Rn.callV (As := [_, _]) dX10_readThing_58 mv_X10_121 (by first | rfl | exact gC0 (by assumption) | exact gL0 (by assumption)) rfl rfl rfl (Nat.le_of_ble_eq_true rfl) (cx_numI G (d + 3) (PS I p3 b3 q s V1) (nI 99) p3 hT.ps y3 (by rfl)) (fun _ _ h => h) (fun v J h => ?_)
          obtain ⟨p4, b4, z1, z2, rfl, z3, hz⟩ := h
          rw [y6] at z3
          rw [← z3]
          refine Rn.hpp _ (PS_PB _ _ _ _ _ _ _ _) ?_
          rcases hz with ⟨rfl, z4⟩ | ⟨y, rfl, z4, z5, z6⟩
          · rw [gB_l z4]
            refine Rn.goto 65 dX10_readThing_61 (by decide) ?_
            refine Rn.istore_n dX10_readThing_65 rfl (by decide) ?_
            refine Rn.iload_n dX10_readThing_66 rfl rfl ?_
            refine Rn.if_ge (tgt := 72) dX10_readThing_67 (by decide) (fun h9 => absurd h9 (by decide)) (fun _ => ?_)
            refine Rn.iconst (v := (nI 0)) dX10_readThing_70 rfl ?_
            exact Rn.zret dX10_readThing_71 rfl rfl (⟨p4, b4, V1, rfl, z1, z2, Or.inl ⟨rfl, rfl, w, t, b, r3⟩⟩)
          · rw [gB_r z6]
            refine Rn.goto 65 dX10_readThing_61 (by decide) ?_
            exact rk_t2 G d I V0 w t b q s ht hT x y _ _ hx z4 p4 b4 V1 z1 r3 (bl c e p4) rfl _ rfl
end Rct
