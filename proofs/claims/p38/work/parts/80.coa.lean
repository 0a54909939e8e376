theorem dX10_coast_2 : decode cX10_coast 2 = .ok (.iload_n 1, 1) := by decide +kernel
theorem dX10_coast_3 : decode cX10_coast 3 = .ok (.sipush 1226, 3) := by decide +kernel
theorem dX10_coast_6 : decode cX10_coast 6 = .ok (.if_icmp .ge 21, 3) := by decide +kernel
theorem dX10_coast_9 : decode cX10_coast 9 = .ok (.aload_n 0, 1) := by decide +kernel
theorem dX10_coast_10 : decode cX10_coast 10 = .ok (.getfield 20, 3) := by decide +kernel
theorem dX10_coast_13 : decode cX10_coast 13 = .ok (.iload_n 1, 1) := by decide +kernel
theorem dX10_coast_14 : decode cX10_coast 14 = .ok (.aload_n 0, 1) := by decide +kernel
theorem dX10_coast_15 : decode cX10_coast 15 = .ok (.getfield 13, 3) := by decide +kernel
theorem dX10_coast_18 : decode cX10_coast 18 = .ok (.iload_n 1, 1) := by decide +kernel
theorem dX10_coast_19 : decode cX10_coast 19 = .ok (.iaload, 1) := by decide +kernel
theorem dX10_coast_20 : decode cX10_coast 20 = .ok (.iastore, 1) := by decide +kernel
theorem dX10_coast_21 : decode cX10_coast 21 = .ok (.iinc 1 1, 3) := by decide +kernel
theorem dX10_coast_24 : decode cX10_coast 24 = .ok (.goto (-22), 3) := by decide +kernel
theorem dX10_coast_92 : decode cX10_coast 92 = .ok (.iload_n 2, 1) := by decide +kernel
theorem dX10_coast_93 : decode cX10_coast 93 = .ok (.sipush 1226, 3) := by decide +kernel
theorem dX10_coast_96 : decode cX10_coast 96 = .ok (.if_icmp .ge 21, 3) := by decide +kernel
theorem dX10_coast_99 : decode cX10_coast 99 = .ok (.aload_n 0, 1) := by decide +kernel
theorem dX10_coast_100 : decode cX10_coast 100 = .ok (.getfield 13, 3) := by decide +kernel
theorem dX10_coast_103 : decode cX10_coast 103 = .ok (.iload_n 2, 1) := by decide +kernel
theorem dX10_coast_104 : decode cX10_coast 104 = .ok (.aload_n 0, 1) := by decide +kernel
theorem dX10_coast_105 : decode cX10_coast 105 = .ok (.getfield 20, 3) := by decide +kernel
theorem dX10_coast_108 : decode cX10_coast 108 = .ok (.iload_n 2, 1) := by decide +kernel
theorem dX10_coast_109 : decode cX10_coast 109 = .ok (.iaload, 1) := by decide +kernel
theorem dX10_coast_110 : decode cX10_coast 110 = .ok (.iastore, 1) := by decide +kernel
theorem dX10_coast_111 : decode cX10_coast 111 = .ok (.iinc 2 1, 3) := by decide +kernel
theorem dX10_coast_114 : decode cX10_coast 114 = .ok (.goto (-22), 3) := by decide +kernel
/-! the reference's coast: its two copying loops -/
theorem Fs_up {I : Hi} {S : List (Nat × Nat × Nat)} {a j lo hi : Nat} {v : Int32} (hm : (a, lo, hi) ∈ S) (h1 : lo ≤ j) (h2 : j ≤ hi) : Fs S I (zup I a j v) := by
  refine Fs_cell _ hm (fun k hk hn => ?_)
  rw [upd_ne]
  intro e
  subst e
  exact hn ⟨h1, h2⟩
theorem Fs_tr2 {I J K : Hi} {S : List (Nat × Nat × Nat)} (h1 : Fs S I J) (h2 : Fs S J K) : Fs S I K := fun c j hj hc => (h2 c j hj hc).trans (h1 c j hj hc)
theorem PBok {I : Hi} {p b : Nat} (hB : BX I) (hX : XM I) (hp : p ≤ 400) (hb : b ≤ 400) : BX (PB I p b) ∧ XM (PB I p b) ∧ Fs [(94, 10, 10), (94, 12, 12)] I (PB I p b) :=
  ⟨BX.up (a := 94) (j := 12) (BX.up (a := 94) (j := 10) hB (iv_nI (n := 400) hp (by decide))) (iv_nI (n := 400) hb (by decide)), XM.up (XM.up hX (by decide)) (by decide), Fs_tr2 (Fs_up (lo := 10) (hi := 10) (by decide) (by decide) (by decide)) (Fs_up (lo := 12) (hi := 12) (by decide) (by decide) (by decide))⟩
theorem resM_int {o : Rs} {iv : Iv} (h : resM o (.inl (some iv))) : ∃ x, o = .inl (some (.int x)) ∧ inIv iv x := by
  cases o with
  | inr E => exact h.elim
  | inl v =>
    cases v with
    | none => exact h.elim
    | some v =>
      cases v with
      | int x => exact ⟨x, rfl, h⟩
      | _ => exact h.elim
section Coast
variable (G : Gx) (d : Nat) (I : Hi)
theorem lp_coa1 {kx : Kx} {b : Nat} (x2 : Option Value) (kk : Rn G GAM mX10_coast kx d b 27 [some (.ref 94), some (.int (nI 1226)), x2] [] (zset I 97 (cp (I 95) (I 97) 1226))) : ∀ m k : Nat, k + m = 1226 → Rn G GAM mX10_coast kx d b 2 [some (.ref 94), some (.int (nI k)), x2] [] (zset I 97 (cp (I 95) (I 97) k)) := by
  intro m
  induction m with
  | zero =>
    intro k hk
    obtain rfl : k = 1226 := by omega
    refine Rn.iload_n dX10_coast_2 rfl rfl ?_
    refine Rn.sipush (v := (nI 1226)) dX10_coast_3 rfl ?_
    refine Rn.icmp_geN dX10_coast_6 27 (fun _ => ?_) (fun h9 => by exfalso; omega)
    exact kk
  | succ m ih =>
    intro k hk
    refine Rn.iload_n dX10_coast_2 rfl rfl ?_
    refine Rn.sipush (v := (nI 1226)) dX10_coast_3 rfl ?_
    refine Rn.icmp_geN dX10_coast_6 27 (fun h9 => by exfalso; omega) (fun _ => ?_)
    refine Rn.aload_n dX10_coast_9 rfl rfl ?_
    refine Rn.getR dX10_coast_10 fd_X10_20_9 (by first | rfl | exact gC0 (by assumption) | exact gL0 (by assumption)) rfl ?_
    refine Rn.iload_n dX10_coast_13 rfl rfl ?_
    refine Rn.aload_n dX10_coast_14 rfl rfl ?_
    refine Rn.getR dX10_coast_15 fd_X10_13_9 (by first | rfl | exact gC0 (by assumption) | exact gL0 (by assumption)) rfl ?_
    refine Rn.iload_n dX10_coast_18 rfl rfl ?_
    refine Rn.ialdN dX10_coast_19 (by first | rfl | exact gC1 (by assumption) | exact gC2 (by assumption) | exact gC3 (by assumption) | exact gL1 (by assumption) | exact gL2 (by assumption) | exact gL3 (by assumption) | exact gL4 (by assumption) | exact gL5 (by assumption) | exact gL6 (by assumption)) ?_
    refine Rn.iastN dX10_coast_20 (by first | rfl | exact gC1 (by assumption) | exact gC2 (by assumption) | exact gC3 (by assumption) | exact gL1 (by assumption) | exact gL2 (by assumption) | exact gL3 (by assumption) | exact gL4 (by assumption) | exact gL5 (by assumption) | exact gL6 (by assumption)) ?_
    refine Rn.iincN dX10_coast_21 rfl (by decide) ?_
    refine Rn.goto 2 dX10_coast_24 (by decide) ?_
    exact Rn.hpp _ (by rw [zup_zset]; exact congrArg _ (cp_upd (I 95) (I 97) k)) (ih (k + 1) (by omega))
theorem lp_coa2 {kx : Kx} {b : Nat} (x1 : Option Value) (kk : Rn G GAM mX10_coast kx d b 117 [some (.ref 94), x1, some (.int (nI 1226))] [] (zset I 95 (cp (I 97) (I 95) 1226))) : ∀ m k : Nat, k + m = 1226 → Rn G GAM mX10_coast kx d b 92 [some (.ref 94), x1, some (.int (nI k))] [] (zset I 95 (cp (I 97) (I 95) k)) := by
  intro m
  induction m with
  | zero =>
    intro k hk
    obtain rfl : k = 1226 := by omega
    refine Rn.iload_n dX10_coast_92 rfl rfl ?_
    refine Rn.sipush (v := (nI 1226)) dX10_coast_93 rfl ?_
    refine Rn.icmp_geN dX10_coast_96 117 (fun _ => ?_) (fun h9 => by exfalso; omega)
    exact kk
  | succ m ih =>
    intro k hk
    refine Rn.iload_n dX10_coast_92 rfl rfl ?_
    refine Rn.sipush (v := (nI 1226)) dX10_coast_93 rfl ?_
    refine Rn.icmp_geN dX10_coast_96 117 (fun h9 => by exfalso; omega) (fun _ => ?_)
    refine Rn.aload_n dX10_coast_99 rfl rfl ?_
    refine Rn.getR dX10_coast_100 fd_X10_13_9 (by first | rfl | exact gC0 (by assumption) | exact gL0 (by assumption)) rfl ?_
    refine Rn.iload_n dX10_coast_103 rfl rfl ?_
    refine Rn.aload_n dX10_coast_104 rfl rfl ?_
    refine Rn.getR dX10_coast_105 fd_X10_20_9 (by first | rfl | exact gC0 (by assumption) | exact gL0 (by assumption)) rfl ?_
    refine Rn.iload_n dX10_coast_108 rfl rfl ?_
    refine Rn.ialdN dX10_coast_109 (by first | rfl | exact gC1 (by assumption) | exact gC2 (by assumption) | exact gC3 (by assumption) | exact gL1 (by assumption) | exact gL2 (by assumption) | exact gL3 (by assumption) | exact gL4 (by assumption) | exact gL5 (by assumption) | exact gL6 (by assumption)) ?_
    refine Rn.iastN dX10_coast_110 (by first | rfl | exact gC1 (by assumption) | exact gC2 (by assumption) | exact gC3 (by assumption) | exact gL1 (by assumption) | exact gL2 (by assumption) | exact gL3 (by assumption) | exact gL4 (by assumption) | exact gL5 (by assumption) | exact gL6 (by assumption)) ?_
    refine Rn.iincN dX10_coast_111 rfl (by decide) ?_
    refine Rn.goto 92 dX10_coast_114 (by decide) ?_
    exact Rn.hpp _ (by rw [zup_zset]; exact congrArg _ (cp_upd (I 97) (I 95) k)) (ih (k + 1) (by omega))
end Coast
