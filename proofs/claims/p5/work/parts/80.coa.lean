theorem dX10_coast_2 : decode cX10_coast 2 = .ok (.iload_n 1, 1) := by decide +kernel
theorem dX10_coast_3 : decode cX10_coast 3 = .ok (.sipush 1226, 3) := by decide +kernel
theorem dX10_coast_6 : decode cX10_coast 6 = .ok (.if_icmp .ge 21, 3) := by decide +kernel
theorem dX10_coast_9 : decode cX10_coast 9 = .ok (.aload_n 0, 1) := by decide +kernel
theorem dX10_coast_10 : decode cX10_coast 10 = .ok (.getfield 20, 3) := by decide +kernel
theorem dX10_coast_13 : decode cX10_coast 13 = .ok (.iload_n 1, 1) := by decide +kernel
theorem dX10_coast_14 : decode cX10_coast 14 = .ok (.aload_n 0, 1) := by decide +kernel
theorem dX10_coast_15 : decode cX10_coast 15 = .ok (.getfield 13, 3) := by decide +kernel
theorem dX10_coast_18 : decode cX10_coast 18 = .ok (.iload_n 1, 1) := by decide +kernel
theorem dX10_coast_19 : decode cX10_coast 19 = .ok (.iaload, 1) := by decide +kernel
theorem dX10_coast_20 : decode cX10_coast 20 = .ok (.iastore, 1) := by decide +kernel
theorem dX10_coast_21 : decode cX10_coast 21 = .ok (.iinc 1 1, 3) := by decide +kernel
theorem dX10_coast_24 : decode cX10_coast 24 = .ok (.goto (-22), 3) := by decide +kernel
theorem dX10_coast_92 : decode cX10_coast 92 = .ok (.iload_n 2, 1) := by decide +kernel
theorem dX10_coast_93 : decode cX10_coast 93 = .ok (.sipush 1226, 3) := by decide +kernel
theorem dX10_coast_96 : decode cX10_coast 96 = .ok (.if_icmp .ge 21, 3) := by decide +kernel
theorem dX10_coast_99 : decode cX10_coast 99 = .ok (.aload_n 0, 1) := by decide +kernel
theorem dX10_coast_100 : decode cX10_coast 100 = .ok (.getfield 13, 3) := by decide +kernel
theorem dX10_coast_103 : decode cX10_coast 103 = .ok (.iload_n 2, 1) := by decide +kernel
theorem dX10_coast_104 : decode cX10_coast 104 = .ok (.aload_n 0, 1) := by decide +kernel
theorem dX10_coast_105 : decode cX10_coast 105 = .ok (.getfield 20, 3) := by decide +kernel
theorem dX10_coast_108 : decode cX10_coast 108 = .ok (.iload_n 2, 1) := by decide +kernel
theorem dX10_coast_109 : decode cX10_coast 109 = .ok (.iaload, 1) := by decide +kernel
theorem dX10_coast_110 : decode cX10_coast 110 = .ok (.iastore, 1) := by decide +kernel
theorem dX10_coast_111 : decode cX10_coast 111 = .ok (.iinc 2 1, 3) := by decide +kernel
theorem dX10_coast_114 : decode cX10_coast 114 = .ok (.goto (-22), 3) := by decide +kernel
theorem dX10_coast_90 : decode cX10_coast 90 = .ok (.iconst 0, 1) := by decide +kernel
theorem dX10_coast_91 : decode cX10_coast 91 = .ok (.istore_n 2, 1) := by decide +kernel
theorem dX10_coast_117 : decode cX10_coast 117 = .ok (.iconst 0, 1) := by decide +kernel
theorem dX10_coast_118 : decode cX10_coast 118 = .ok (.ireturn, 1) := by decide +kernel
theorem dX10_coast_0 : decode cX10_coast 0 = .ok (.iconst 0, 1) := by decide +kernel
theorem dX10_coast_1 : decode cX10_coast 1 = .ok (.istore_n 1, 1) := by decide +kernel
theorem dX10_coast_27 : decode cX10_coast 27 = .ok (.aload_n 0, 1) := by decide +kernel
theorem dX10_coast_28 : decode cX10_coast 28 = .ok (.iconst 1, 1) := by decide +kernel
theorem dX10_coast_29 : decode cX10_coast 29 = .ok (.invokevirtual 237, 3) := by decide +kernel
theorem dX10_coast_32 : decode cX10_coast 32 = .ok (.istore_n 1, 1) := by decide +kernel
theorem dX10_coast_33 : decode cX10_coast 33 = .ok (.aload_n 0, 1) := by decide +kernel
theorem dX10_coast_34 : decode cX10_coast 34 = .ok (.iload_n 1, 1) := by decide +kernel
theorem dX10_coast_35 : decode cX10_coast 35 = .ok (.ifCond .ge 10, 3) := by decide +kernel
theorem dX10_coast_45 : decode cX10_coast 45 = .ok (.iconst (-1), 1) := by decide +kernel
theorem dX10_coast_46 : decode cX10_coast 46 = .ok (.putfield 33, 3) := by decide +kernel
theorem dX10_coast_49 : decode cX10_coast 49 = .ok (.aload_n 0, 1) := by decide +kernel
theorem dX10_coast_50 : decode cX10_coast 50 = .ok (.iload_n 1, 1) := by decide +kernel
theorem dX10_coast_51 : decode cX10_coast 51 = .ok (.ifCond .ge 7, 3) := by decide +kernel
theorem dX10_coast_58 : decode cX10_coast 58 = .ok (.iconst 0, 1) := by decide +kernel
theorem dX10_coast_59 : decode cX10_coast 59 = .ok (.iconst 1, 1) := by decide +kernel
theorem dX10_coast_60 : decode cX10_coast 60 = .ok (.invokevirtual 241, 3) := by decide +kernel
theorem dX10_coast_63 : decode cX10_coast 63 = .ok (.ifCond .ne 27, 3) := by decide +kernel
theorem dX10_coast_66 : decode cX10_coast 66 = .ok (.aload_n 0, 1) := by decide +kernel
theorem dX10_coast_67 : decode cX10_coast 67 = .ok (.aload_n 0, 1) := by decide +kernel
theorem dX10_coast_68 : decode cX10_coast 68 = .ok (.getfield 13, 3) := by decide +kernel
theorem dX10_coast_71 : decode cX10_coast 71 = .ok (.iconst 2, 1) := by decide +kernel
theorem dX10_coast_72 : decode cX10_coast 72 = .ok (.iaload, 1) := by decide +kernel
theorem dX10_coast_73 : decode cX10_coast 73 = .ok (.bipush 12, 2) := by decide +kernel
theorem dX10_coast_75 : decode cX10_coast 75 = .ok (.if_icmp .ne 7, 3) := by decide +kernel
theorem dX10_coast_82 : decode cX10_coast 82 = .ok (.iconst 0, 1) := by decide +kernel
theorem dX10_coast_83 : decode cX10_coast 83 = .ok (.iconst 2, 1) := by decide +kernel
theorem dX10_coast_84 : decode cX10_coast 84 = .ok (.invokevirtual 241, 3) := by decide +kernel
theorem dX10_coast_87 : decode cX10_coast 87 = .ok (.ifCond .eq 32, 3) := by decide +kernel
theorem dX10_coast_119 : decode cX10_coast 119 = .ok (.aload_n 0, 1) := by decide +kernel
theorem dX10_coast_120 : decode cX10_coast 120 = .ok (.getfield 13, 3) := by decide +kernel
theorem dX10_coast_123 : decode cX10_coast 123 = .ok (.iconst 2, 1) := by decide +kernel
theorem dX10_coast_124 : decode cX10_coast 124 = .ok (.dup2, 1) := by decide +kernel
theorem dX10_coast_125 : decode cX10_coast 125 = .ok (.iaload, 1) := by decide +kernel
theorem dX10_coast_126 : decode cX10_coast 126 = .ok (.iconst 1, 1) := by decide +kernel
theorem dX10_coast_127 : decode cX10_coast 127 = .ok (.iadd, 1) := by decide +kernel
theorem dX10_coast_128 : decode cX10_coast 128 = .ok (.iastore, 1) := by decide +kernel
theorem dX10_coast_129 : decode cX10_coast 129 = .ok (.aload_n 0, 1) := by decide +kernel
theorem dX10_coast_130 : decode cX10_coast 130 = .ok (.iconst 0, 1) := by decide +kernel
theorem dX10_coast_131 : decode cX10_coast 131 = .ok (.putfield 58, 3) := by decide +kernel
theorem dX10_coast_134 : decode cX10_coast 134 = .ok (.aload_n 0, 1) := by decide +kernel
theorem dX10_coast_135 : decode cX10_coast 135 = .ok (.getfield 13, 3) := by decide +kernel
theorem dX10_coast_138 : decode cX10_coast 138 = .ok (.iconst 2, 1) := by decide +kernel
theorem dX10_coast_139 : decode cX10_coast 139 = .ok (.iaload, 1) := by decide +kernel
theorem dX10_coast_140 : decode cX10_coast 140 = .ok (.ireturn, 1) := by decide +kernel
theorem dX10_coast_78 : decode cX10_coast 78 = .ok (.iconst 1, 1) := by decide +kernel
theorem dX10_coast_79 : decode cX10_coast 79 = .ok (.goto 4, 3) := by decide +kernel
theorem dX10_coast_38 : decode cX10_coast 38 = .ok (.aload_n 0, 1) := by decide +kernel
theorem dX10_coast_39 : decode cX10_coast 39 = .ok (.getfield 99, 3) := by decide +kernel
theorem dX10_coast_42 : decode cX10_coast 42 = .ok (.goto 4, 3) := by decide +kernel
theorem dX10_coast_54 : decode cX10_coast 54 = .ok (.iconst 1, 1) := by decide +kernel
theorem dX10_coast_55 : decode cX10_coast 55 = .ok (.goto 4, 3) := by decide +kernel
/-! coast of the reference -/
theorem Fs_up {I : Hi} {S : List (Nat × Nat × Nat)} {a j lo hi : Nat} {v : Int32} (hm : (a, lo, hi) ∈ S) (h1 : lo ≤ j) (h2 : j ≤ hi) : Fs S I (zup I a j v) := by
  refine Fs_cell _ hm (fun k hk hn => ?_)
  rw [upd_ne]
  intro e
  subst e
  exact hn ⟨h1, h2⟩
theorem Fs_tr2 {I J K : Hi} {S : List (Nat × Nat × Nat)} (h1 : Fs S I J) (h2 : Fs S J K) : Fs S I K := fun c j hj hc => (h2 c j hj hc).trans (h1 c j hj hc)
theorem PBok {I : Hi} {p b : Nat} (hB : BX I) (hX : XM I) (hp : p ≤ 400) (hb : b ≤ 400) : BX (PB I p b) ∧ XM (PB I p b) ∧ Fs [(94, 10, 10), (94, 12, 12)] I (PB I p b) :=
  ⟨BX.up (a := 94) (j := 12) (BX.up (a := 94) (j := 10) hB (iv_nI (n := 400) hp (by decide))) (iv_nI (n := 400) hb (by decide)), XM.up (XM.up hX (by decide)) (by decide), Fs_tr2 (Fs_up (lo := 10) (hi := 10) (by decide) (by decide) (by decide)) (Fs_up (lo := 12) (hi := 12) (by decide) (by decide) (by decide))⟩
theorem resM_int {o : Rs} {iv : Iv} (h : resM o (.inl (some iv))) : ∃ x, o = .inl (some (.int x)) ∧ inIv iv x := by
  cases o with
  | inr E => exact h.elim
  | inl v =>
    cases v with
    | none => exact h.elim
    | some v =>
      cases v with
      | int x => exact ⟨x, rfl, h⟩
      | _ => exact h.elim
section Coa
variable {G : Gx}
theorem mn_blanks : CtOK G (hxM []) XM mtL ct_n0 := by
  intro k I vs hB hX hA hF
  obtain ⟨t0, rfl, hA1⟩ := argM_r hA
  cases argM_n hA1
  obtain ⟨p, hp, h10⟩ := nI_iv (n := 400) (show inIv (0, 400) (I 94 10) from hB 94 10)
  obtain ⟨e, he, h11⟩ := nI_iv (n := 400) (show inIv (0, 400) (I 94 11) from hB 94 11)
  have hc := ct_blanks G k I p e hp he h10 h11
  rw [Nat.add_comm] at hc
  refine hc.weak (fun o J h => ?_)
  cases o with
  | inr E => exact h.elim
  | inl v =>
    obtain ⟨rfl, p', h1, h2, rfl⟩ := h
    obtain ⟨a1, a2, a3⟩ := PBok hB hX h2 h2
    exact ⟨a1, a2, a3, _, List.mem_singleton.mpr rfl, trivial, fun e he => nomatch he⟩
theorem mn_letters : CtOK G (hxM []) XM mtL ct_n1 := by
  intro k I vs hB hX hA hF
  obtain ⟨t0, rfl, hA1⟩ := argM_r hA
  cases argM_n hA1
  obtain ⟨p, hp, h10⟩ := nI_iv (n := 400) (show inIv (0, 400) (I 94 10) from hB 94 10)
  obtain ⟨e, he, h11⟩ := nI_iv (n := 400) (show inIv (0, 400) (I 94 11) from hB 94 11)
  have hc := ct_letters G k I p e hp he h10 h11
  rw [Nat.add_comm] at hc
  refine hc.weak (fun o J h => ?_)
  cases o with
  | inr E => exact h.elim
  | inl v =>
    obtain ⟨rfl, p', b', h0, h1, h2, rfl⟩ := h
    obtain ⟨a1, a2, a3⟩ := PBok hB hX h2 (show b' ≤ 400 by omega)
    exact ⟨a1, a2, a3, _, List.mem_singleton.mpr rfl, trivial, fun e he => nomatch he⟩
theorem mn_isWord (i : Nat) (hi : i < 23) : CtOK G (hxM []) XM mtL (ixW, 4, 0, [.inr (some 94), .inr (some (1000 + i))], [], [], [(.inl (some (0, 1)), [])]) := by
  intro k I vs hB hX hA hF
  obtain ⟨t0, rfl, hA1⟩ := argM_r hA
  obtain ⟨t1, rfl, hA2⟩ := argM_r hA1
  cases argM_n hA2
  obtain ⟨p, hp, h10⟩ := nI_iv (n := 400) (show inIv (0, 400) (I 94 10) from hB 94 10)
  obtain ⟨b, hb, h12⟩ := nI_iv (n := 400) (show inIv (0, 400) (I 94 12) from hB 94 12)
  have hc := ct_isWord G k I i p b hi hp hb h10 h12
  rw [Nat.add_comm] at hc
  refine hc.weak (fun o J h => ?_)
  cases o with
  | inr E => exact h.elim
  | inl v =>
    obtain ⟨rfl, h1⟩ := h
    refine ⟨hB, hX, fun _ _ _ _ => rfl, _, List.mem_singleton.mpr rfl, ?_, fun e he => nomatch he⟩
    rcases h1 with rfl | ⟨rfl, -⟩
    · exact iv_nI (n := 1) (by decide) (by decide)
    · exact iv_nI (n := 1) (by decide) (by decide)
theorem mn_number (b : Nat) (hb9 : b < 1000) : CtOK G (hxM []) XM mtL (ixN, 2, 0, [.inr (some 94), .inl (0, 0), .inl (-1, (b : Int))], [], [(94, 10, 10), (94, 12, 12)], [(.inl (some (-1, (b : Int))), [])]) := by
  intro k I vs hB hX hA hF
  obtain ⟨t0, rfl, hA1⟩ := argM_r hA
  obtain ⟨lo, t1, rfl, hlo, hA2⟩ := argM_i hA1
  obtain ⟨hi, t2, rfl, hhi, hA3⟩ := argM_i hA2
  cases argM_n hA3
  obtain ⟨p, hp, h10⟩ := nI_iv (n := 400) (show inIv (0, 400) (I 94 10) from hB 94 10)
  obtain ⟨e, he, h11⟩ := nI_iv (n := 400) (show inIv (0, 400) (I 94 11) from hB 94 11)
  have hc := ct_number G k I lo hi p e hp he h10 h11
  rw [Nat.add_comm] at hc
  refine hc.weak (fun o J h => ?_)
  cases o with
  | inr E => exact h.elim
  | inl v =>
    obtain ⟨p', b', h0, h1, h2, rfl, h3⟩ := h
    obtain ⟨a1, a2, a3⟩ := PBok hB hX h2 (show b' ≤ 400 by omega)
    refine ⟨a1, a2, a3, _, List.mem_singleton.mpr rfl, ?_, fun e he => nomatch he⟩
    have hlo : (0 : Int) ≤ lo.toInt ∧ lo.toInt ≤ (0 : Int) := hlo
    have hhi : (-1 : Int) ≤ hi.toInt ∧ hi.toInt ≤ (b : Int) := hhi
    rcases h3 with rfl | ⟨x, rfl, -, h4, h5⟩
    · show (-1 : Int) ≤ (-1 : Int32).toInt ∧ (-1 : Int32).toInt ≤ (b : Int)
      rw [show (-1 : Int32).toInt = -1 from rfl]
      omega
    · have h4 := Int32.le_iff_toInt_le.mp h4
      have h5 := Int32.le_iff_toInt_le.mp h5
      show (-1 : Int) ≤ x.toInt ∧ x.toInt ≤ (b : Int)
      omega
theorem manN : ManN G XM := ⟨mn_blanks, mn_letters, mn_isWord 0 (by decide), mn_number 99 (by decide), mn_isWord 1 (by decide), mn_number 999 (by decide), mn_isWord 2 (by decide), mn_isWord 3 (by decide), mn_number 9 (by decide), mn_isWord 4 (by decide), mn_isWord 5 (by decide), mn_number 7 (by decide), mn_isWord 6 (by decide), mn_isWord 7 (by decide), mn_isWord 8 (by decide), mn_isWord 9 (by decide), mn_number 50 (by decide), mn_isWord 10 (by decide), mn_number 100 (by decide), mn_isWord 11 (by decide)⟩
def LQ2 (I : Hi) (o : Rs) (J : Hi) : Prop := (∃ v, o = .inl (some (.int v))) ∧ BX J ∧ XM J ∧ J 94 6 = I 94 6 ∧ J 94 9 = nI 0 ∧ ∀ c j, c < 94 → j < 5000 → J c j = I c j
/-- what holds while a coast is read, behind the reading -/
def CO (I K : Hi) : Prop := BX K ∧ XM K ∧ (∀ j, j < 1226 → K 97 j = I 95 j) ∧ K 94 6 = I 94 6 ∧ K 94 9 = nI 0 ∧ ∀ c j, c < 94 → j < 5000 → K c j = I c j
theorem CO.up {I K : Hi} (h : CO I K) {j : Nat} {v : Int32} (hj : j = 0 ∨ j = 14) : CO I (zup K 94 j v) := by
  obtain ⟨h1, h2, h3, h4, h6, h5⟩ := h
  refine ⟨BX.up h1 ?_, h2.up (by decide), fun j hj => ?_, ?_, ?_, fun c j hc hj => ?_⟩
  · rcases hj with rfl | rfl <;> exact inIv_F _
  · rw [zup_ne _ _ (by decide)]; exact h3 j hj
  · rw [zup_at, upd_ne _ _ (by omega)]; exact h4
  · rw [zup_at, upd_ne _ _ (by omega)]; exact h6
  · rw [zup_ne _ _ (by omega)]; exact h5 c j hc hj
end Coa
section Coast
variable (G : Gx) (d : Nat) (I : Hi)
theorem lp_coa1 {kx : Kx} {b : Nat} (x2 : Option Value) (kk : Rn G GAM mX10_coast kx d b 27 [some (.ref 94), some (.int (nI 1226)), x2] [] (zset I 97 (cp (I 95) (I 97) 1226))) : ∀ m k : Nat, k + m = 1226 → Rn G GAM mX10_coast kx d b 2 [some (.ref 94), some (.int (nI k)), x2] [] (zset I 97 (cp (I 95) (I 97) k)) := by
  intro m
  induction m with
  | zero =>
    intro k hk
    obtain rfl : k = 1226 := by omega
    refine Rn.iload_n dX10_coast_2 rfl rfl ?_
    refine Rn.sipush (v := (nI 1226)) dX10_coast_3 rfl ?_
    refine Rn.icmp_geN dX10_coast_6 27 (fun _ => ?_) (fun h9 => by exfalso; omega)
    exact kk
  | succ m ih =>
    intro k hk
    refine Rn.iload_n dX10_coast_2 rfl rfl ?_
    refine Rn.sipush (v := (nI 1226)) dX10_coast_3 rfl ?_
    refine Rn.icmp_geN dX10_coast_6 27 (fun h9 => by exfalso; omega) (fun _ => ?_)
    refine Rn.aload_n dX10_coast_9 rfl rfl ?_
    refine Rn.getR dX10_coast_10 fd_X10_20_9 (by first | rfl | exact gC0 (by assumption) | exact gL0 (by assumption)) rfl ?_
    refine Rn.iload_n dX10_coast_13 rfl rfl ?_
    refine Rn.aload_n dX10_coast_14 rfl rfl ?_
    refine Rn.getR dX10_coast_15 fd_X10_13_9 (by first | rfl | exact gC0 (by assumption) | exact gL0 (by assumption)) rfl ?_
    refine Rn.iload_n dX10_coast_18 rfl rfl ?_
    refine Rn.ialdN dX10_coast_19 (by first | rfl | exact gC1 (by assumption) | exact gC2 (by assumption) | exact gC3 (by assumption) | exact gL1 (by assumption) | exact gL2 (by assumption) | exact gL3 (by assumption) | exact gL4 (by assumption) | exact gL5 (by assumption) | exact gL6 (by assumption)) ?_
    refine Rn.iastN dX10_coast_20 (by first | rfl | exact gC1 (by assumption) | exact gC2 (by assumption) | exact gC3 (by assumption) | exact gL1 (by assumption) | exact gL2 (by assumption) | exact gL3 (by assumption) | exact gL4 (by assumption) | exact gL5 (by assumption) | exact gL6 (by assumption)) ?_
    refine Rn.iincN dX10_coast_21 rfl (by decide) ?_
    refine Rn.goto 2 dX10_coast_24 (by decide) ?_
    exact Rn.hpp _ (by rw [zup_zset]; exact congrArg _ (cp_upd (I 95) (I 97) k)) (ih (k + 1) (by omega))
theorem lp_coa2 {kx : Kx} {b : Nat} (x1 : Option Value) (kk : Rn G GAM mX10_coast kx d b 117 [some (.ref 94), x1, some (.int (nI 1226))] [] (zset I 95 (cp (I 97) (I 95) 1226))) : ∀ m k : Nat, k + m = 1226 → Rn G GAM mX10_coast kx d b 92 [some (.ref 94), x1, some (.int (nI k))] [] (zset I 95 (cp (I 97) (I 95) k)) := by
  intro m
  induction m with
  | zero =>
    intro k hk
    obtain rfl : k = 1226 := by omega
    refine Rn.iload_n dX10_coast_92 rfl rfl ?_
    refine Rn.sipush (v := (nI 1226)) dX10_coast_93 rfl ?_
    refine Rn.icmp_geN dX10_coast_96 117 (fun _ => ?_) (fun h9 => by exfalso; omega)
    exact kk
  | succ m ih =>
    intro k hk
    refine Rn.iload_n dX10_coast_92 rfl rfl ?_
    refine Rn.sipush (v := (nI 1226)) dX10_coast_93 rfl ?_
    refine Rn.icmp_geN dX10_coast_96 117 (fun h9 => by exfalso; omega) (fun _ => ?_)
    refine Rn.aload_n dX10_coast_99 rfl rfl ?_
    refine Rn.getR dX10_coast_100 fd_X10_13_9 (by first | rfl | exact gC0 (by assumption) | exact gL0 (by assumption)) rfl ?_
    refine Rn.iload_n dX10_coast_103 rfl rfl ?_
    refine Rn.aload_n dX10_coast_104 rfl rfl ?_
    refine Rn.getR dX10_coast_105 fd_X10_20_9 (by first | rfl | exact gC0 (by assumption) | exact gL0 (by assumption)) rfl ?_
    refine Rn.iload_n dX10_coast_108 rfl rfl ?_
    refine Rn.ialdN dX10_coast_109 (by first | rfl | exact gC1 (by assumption) | exact gC2 (by assumption) | exact gC3 (by assumption) | exact gL1 (by assumption) | exact gL2 (by assumption) | exact gL3 (by assumption) | exact gL4 (by assumption) | exact gL5 (by assumption) | exact gL6 (by assumption)) ?_
    refine Rn.iastN dX10_coast_110 (by first | rfl | exact gC1 (by assumption) | exact gC2 (by assumption) | exact gC3 (by assumption) | exact gL1 (by assumption) | exact gL2 (by assumption) | exact gL3 (by assumption) | exact gL4 (by assumption) | exact gL5 (by assumption) | exact gL6 (by assumption)) ?_
    refine Rn.iincN dX10_coast_111 rfl (by decide) ?_
    refine Rn.goto 92 dX10_coast_114 (by decide) ?_
    exact Rn.hpp _ (by rw [zup_zset]; exact congrArg _ (cp_upd (I 97) (I 95) k)) (ih (k + 1) (by omega))
theorem coa_fail (hX : XM I) (K : Hi) (hK : CO I K) (x1 x2 : Option Value) : Rn G GAM mX10_coast (kM G GAM (LQ2 I)) d 0 90 [some (.ref 94), x1, x2] [] K := by
  obtain ⟨h1, h2, h3, h4, h6, h5⟩ := hK
  refine Rn.iconst (v := (nI 0)) dX10_coast_90 rfl ?_
  refine Rn.istore_n dX10_coast_91 rfl (by decide) ?_
  refine Rn.hpp _ (cp_start K 95 (K 97)) (lp_coa2 G d K _ ?_ 1226 0 rfl)
  refine Rn.iconst (v := (nI 0)) dX10_coast_117 rfl ?_
  exact Rn.iret dX10_coast_118 rfl (⟨⟨_, rfl⟩, BX.set h1 (fun j => BX.copy h1 (by decide) (by decide) (by decide) (by decide) j), ⟨by rw [zset_at]; exact hX.1.of (fun j _ h => by simp only [cp]; rw [if_pos h]; exact h3 j h), by rw [zset_ne _ _ (by decide)]; exact h2.2⟩, by rw [zset_ne _ _ (by decide)]; exact h4, by rw [zset_ne _ _ (by decide)]; exact h6, fun c j hc hj => by rw [zset_ne _ _ (by omega)]; exact h5 c j hc hj⟩)
theorem ct_readAllC (hB : BX I) (hX : XM I) : Ct G GAM mX10_readAll (d + 9) 0 [.ref 94, .int (nI 1)] I (Rv (fun v J => ∃ x, v = some (.int x) ∧ BX J ∧ XM J ∧ J 94 9 = nI 0 ∧ Fs [(94, 0, 0), (94, 9, 9), (94, 10, 10), (94, 11, 11), (94, 12, 12), (94, 16, 16), (95, 0, 136)] I J)) := by
  have hc : Ct G GAM mX10_readAll (9 + d) 0 [.ref 94, .int (nI 1)] I _ := (ce_330 okXM manN) d I [.ref 94, .int (nI 1)] hB hX ⟨rfl, ⟨by decide, by decide⟩, trivial⟩ (fun e he => nomatch he)
  rw [Nat.add_comm] at hc
  refine hc.weak (fun o J h => ?_)
  obtain ⟨a1, a2, a3, p, hp, a4, a5⟩ := h
  cases List.mem_singleton.mp hp
  obtain ⟨x, rfl, -⟩ := resM_int a4
  have h9 : (0 : Int) ≤ (J 94 9).toInt ∧ (J 94 9).toInt ≤ 0 := a5 _ List.mem_cons_self
  exact ⟨x, rfl, a1, a2, Int32.toInt_inj.mp (by rw [show (nI 0).toInt = 0 from rfl]; omega), a3⟩
theorem lw_coast (hB : BX I) (hX : XM I) : Ct G GAM mX10_coast (d + 9 + 1) 0 [.ref 94] I (LQ2 I) := by
  refine Ct.mk [some (.ref 94), none, none] ?_
  refine Rn.iconst (v := (nI 0)) dX10_coast_0 rfl ?_
  refine Rn.istore_n dX10_coast_1 rfl (by decide) ?_
  refine Rn.hpp _ (cp_start I 97 (I 95)) (lp_coa1 G (d + 9 + 1) I _ ?_ 1226 0 rfl)
  have hB1 : BX (zset I 97 (cp (I 95) (I 97) 1226)) := BX.set hB (fun j => BX.copy hB (by decide) (by decide) (by decide) (by decide) j)
  have hX1 : XM (zset I 97 (cp (I 95) (I 97) 1226)) := hX.ne (by decide) (by decide) _
  refine Rn.aload_n dX10_coast_27 rfl rfl ?_
  refine Rn.iconst (v := (nI 1)) dX10_coast_28 rfl ?_
  refine Rn.callV (As := [_]) dX10_coast_29 mv_X10_237 (by first | rfl | exact gC0 (by assumption) | exact gL0 (by assumption)) rfl rfl rfl (Nat.le_of_ble_eq_true rfl) (ct_readAllC G d _ hB1 hX1) (fun _ _ h => h) (fun v J h => ?_)
  obtain ⟨x, rfl, a1, a2, a9, a3⟩ := h
  have hK : CO I J := ⟨a1, a2, fun j hj => by rw [a3 97 j (by omega) rfl, zset_at]; simp only [cp]; rw [if_pos hj], by rw [a3 94 6 (by decide) rfl, zset_ne _ _ (by decide)], a9, fun c j hc hj => by
    rw [a3 c j hj ?_, zset_ne _ _ (by omega)]
    apply List.any_eq_false.mpr
    intro q hq
    have : q.1 ≠ c := by
      have h9 : ∀ q ∈ ([(94, 0, 0), (94, 9, 9), (94, 10, 10), (94, 11, 11), (94, 12, 12), (94, 16, 16), (95, 0, 136)] : List (Nat × Nat × Nat)), 94 ≤ q.1 := by decide
      have := h9 q hq
      omega
    simp [this]⟩
  refine Rn.istore_n dX10_coast_32 rfl (by decide) ?_
  refine Rn.aload_n dX10_coast_33 rfl rfl ?_
  refine Rn.iload_n dX10_coast_34 rfl rfl ?_
  refine Rn.if_ge (tgt := 45) dX10_coast_35 (by decide) (fun h1 => ?_) (fun h1 => ?_)
  · refine Rn.iconst (v := (-1)) dX10_coast_45 rfl ?_
    refine Rn.putI dX10_coast_46 fp_X10_33_9 (by first | rfl | exact gC0 (by assumption) | exact gL0 (by assumption)) rfl ?_
    refine Rn.aload_n dX10_coast_49 rfl rfl ?_
    refine Rn.iload_n dX10_coast_50 rfl rfl ?_
    refine Rn.if_ge (tgt := 58) dX10_coast_51 (by decide) (fun _ => ?_) (fun h9 => by exfalso; exact h9 h1)
    refine Rn.iconst (v := (nI 0)) dX10_coast_58 rfl ?_
    refine Rn.iconst (v := (nI 1)) dX10_coast_59 rfl ?_
    refine Rn.callVp (As := [_, _]) dX10_coast_60 mv_X10_241 (by first | rfl | exact gC0 (by assumption) | exact gL0 (by assumption)) rfl rfl rfl (Nat.le_of_ble_eq_true rfl) (ct_thI0 G _ _ _) ?_
    refine Rn.if_ne (tgt := 90) dX10_coast_63 (by decide) (fun h9 => absurd h9 (by decide)) (fun _ => ?_)
    refine Rn.aload_n dX10_coast_66 rfl rfl ?_
    refine Rn.aload_n dX10_coast_67 rfl rfl ?_
    refine Rn.getR dX10_coast_68 fd_X10_13_9 (by first | rfl | exact gC0 (by assumption) | exact gL0 (by assumption)) rfl ?_
    refine Rn.iconst (v := (nI 2)) dX10_coast_71 rfl ?_
    refine Rn.ialdN dX10_coast_72 (by first | rfl | exact gC1 (by assumption) | exact gC2 (by assumption) | exact gC3 (by assumption) | exact gL1 (by assumption) | exact gL2 (by assumption) | exact gL3 (by assumption) | exact gL4 (by assumption) | exact gL5 (by assumption) | exact gL6 (by assumption)) ?_
    refine Rn.bipush (v := (nI 12)) dX10_coast_73 rfl ?_
    refine Rn.icmp_ne (tgt := 82) dX10_coast_75 (by decide) (fun h2 => ?_) (fun h2 => ?_)
    · refine Rn.iconst (v := (nI 0)) dX10_coast_82 rfl ?_
      refine Rn.iconst (v := (nI 2)) dX10_coast_83 rfl ?_
      refine Rn.callVp (As := [_, _]) dX10_coast_84 mv_X10_241 (by first | rfl | exact gC0 (by assumption) | exact gL0 (by assumption)) rfl rfl rfl (Nat.le_of_ble_eq_true rfl) (ct_thI0 G _ _ _) ?_
      refine Rn.if_eq (tgt := 119) dX10_coast_87 (by decide) (fun _ => ?_) (fun h9 => absurd h9 (by decide))
      refine Rn.aload_n dX10_coast_119 rfl rfl ?_
      refine Rn.getR dX10_coast_120 fd_X10_13_9 (by first | rfl | exact gC0 (by assumption) | exact gL0 (by assumption)) rfl ?_
      refine Rn.iconst (v := (nI 2)) dX10_coast_123 rfl ?_
      refine Rn.dup2 dX10_coast_124 rfl rfl ?_
      refine Rn.ialdN dX10_coast_125 (by first | rfl | exact gC1 (by assumption) | exact gC2 (by assumption) | exact gC3 (by assumption) | exact gL1 (by assumption) | exact gL2 (by assumption) | exact gL3 (by assumption) | exact gL4 (by assumption) | exact gL5 (by assumption) | exact gL6 (by assumption)) ?_
      refine Rn.iconst (v := (nI 1)) dX10_coast_126 rfl ?_
      refine Rn.iadd dX10_coast_127 ?_
      refine Rn.iastN dX10_coast_128 (by first | rfl | exact gC1 (by assumption) | exact gC2 (by assumption) | exact gC3 (by assumption) | exact gL1 (by assumption) | exact gL2 (by assumption) | exact gL3 (by assumption) | exact gL4 (by assumption) | exact gL5 (by assumption) | exact gL6 (by assumption)) ?_
      refine Rn.aload_n dX10_coast_129 rfl rfl ?_
      refine Rn.iconst (v := (nI 0)) dX10_coast_130 rfl ?_
      refine Rn.putI dX10_coast_131 fp_X10_58_9 (by first | rfl | exact gC0 (by assumption) | exact gL0 (by assumption)) rfl ?_
      refine Rn.aload_n dX10_coast_134 rfl rfl ?_
      refine Rn.getR dX10_coast_135 fd_X10_13_9 (by first | rfl | exact gC0 (by assumption) | exact gL0 (by assumption)) rfl ?_
      refine Rn.iconst (v := (nI 2)) dX10_coast_138 rfl ?_
      refine Rn.ialdN dX10_coast_139 (by first | rfl | exact gC1 (by assumption) | exact gC2 (by assumption) | exact gC3 (by assumption) | exact gL1 (by assumption) | exact gL2 (by assumption) | exact gL3 (by assumption) | exact gL4 (by assumption) | exact gL5 (by assumption) | exact gL6 (by assumption)) ?_
      obtain ⟨k1, k2, k3, k4, k6, k5⟩ := hK
      exact Rn.iret dX10_coast_140 rfl (⟨⟨_, rfl⟩, BX.up (a := 94) (j := 7) (BX.up (a := 95) (j := 2) (BX.up (a := 94) (j := 14) k1 (inIv_F _)) (inIv_F _)) (iv_nI (n := 12) (by decide) (by decide)), XM.up (okXM _ _ (fun c j hd => by simp only [hxD, Bool.and_eq_true, Nat.ble_eq, Nat.blt_eq] at hd; by_cases e : c = 95; (subst e; rw [zup_at, upd_ne _ _ (by omega)]); (rw [zup_ne _ _ e])) (XM.up k2 (by decide))) (by decide), by rw [zup_at, upd_ne _ _ (by decide), zup_ne _ _ (by decide), zup_at, upd_ne _ _ (by decide)]; exact k4, by rw [zup_at, upd_ne _ _ (by decide), zup_ne _ _ (by decide), zup_at, upd_ne _ _ (by decide)]; exact k6, fun c j hc hj => by rw [zup_ne _ _ (by omega), zup_ne _ _ (by omega), zup_ne _ _ (by omega)]; exact k5 c j hc hj⟩)
    · refine Rn.iconst (v := (nI 1)) dX10_coast_78 rfl ?_
      refine Rn.goto 83 dX10_coast_79 (by decide) ?_
      refine Rn.iconst (v := (nI 2)) dX10_coast_83 rfl ?_
      refine Rn.callVp (As := [_, _]) dX10_coast_84 mv_X10_241 (by first | rfl | exact gC0 (by assumption) | exact gL0 (by assumption)) rfl rfl rfl (Nat.le_of_ble_eq_true rfl) (ct_thI1 G _ _ _) ?_
      refine Rn.if_eq (tgt := 119) dX10_coast_87 (by decide) (fun h9 => absurd h9 (by decide)) (fun _ => ?_)
      exact coa_fail G _ I hX _ ((hK.up (Or.inr rfl)).up (Or.inl rfl)) _ _
  · refine Rn.aload_n dX10_coast_38 rfl rfl ?_
    refine Rn.getI dX10_coast_39 fd_X10_99_9 (by first | rfl | exact gC0 (by assumption) | exact gL0 (by assumption)) rfl ?_
    refine Rn.goto 46 dX10_coast_42 (by decide) ?_
    refine Rn.putI dX10_coast_46 fp_X10_33_9 (by first | rfl | exact gC0 (by assumption) | exact gL0 (by assumption)) rfl ?_
    refine Rn.aload_n dX10_coast_49 rfl rfl ?_
    refine Rn.iload_n dX10_coast_50 rfl rfl ?_
    refine Rn.if_ge (tgt := 58) dX10_coast_51 (by decide) (fun h9 => by exfalso; exact h1 h9) (fun _ => ?_)
    refine Rn.iconst (v := (nI 1)) dX10_coast_54 rfl ?_
    refine Rn.goto 59 dX10_coast_55 (by decide) ?_
    refine Rn.iconst (v := (nI 1)) dX10_coast_59 rfl ?_
    refine Rn.callVp (As := [_, _]) dX10_coast_60 mv_X10_241 (by first | rfl | exact gC0 (by assumption) | exact gL0 (by assumption)) rfl rfl rfl (Nat.le_of_ble_eq_true rfl) (ct_thI1 G _ _ _) ?_
    refine Rn.if_ne (tgt := 90) dX10_coast_63 (by decide) (fun _ => ?_) (fun h9 => absurd h9 (by decide))
    exact coa_fail G _ I hX _ ((hK.up (Or.inr rfl)).up (Or.inl rfl)) _ _
end Coast
