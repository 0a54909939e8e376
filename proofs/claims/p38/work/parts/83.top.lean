theorem dX9_fault_0 : decode cX9_fault 0 = .ok (.aload_n 0, 1) := by decide +kernel
theorem dX9_fault_1 : decode cX9_fault 1 = .ok (.getfield 80, 3) := by decide +kernel
theorem dX9_fault_4 : decode cX9_fault 4 = .ok (.ireturn, 1) := by decide +kernel
/-! the calls, as the law's loop wants them -/
theorem ct_rv {G : Gx} {y : Ym} {d b : Nat} {vs : List Value} {I : Hi} {ps : List ((Option Iv ⊕ Nat) × Fa)} (h : Ct G GAM y d b vs I (fun o J => WQ I J ∧ ∃ p ∈ ps, resM o p.1)) (h1 : ps.all psI = true) (h2 : ps.all psT = true) : Ct G GAM y d b vs I (Rv (fun v J => (∃ x, v = some (.int x)) ∧ WQ I J)) := by
  refine h.weak (fun o J q => ?_)
  cases o with
  | inr E => exact (res_t q.2 h2).elim
  | inl v => exact ⟨res_i q.2 h1, q.1⟩
theorem ct_rvM {G : Gx} {y : Ym} {d b : Nat} {vs : List Value} {I : Hi} {ps : List ((Option Iv ⊕ Nat) × Fa)} (h : Ct G GAM y d b vs I (fun o J => TM I J ∧ ∃ p ∈ ps, resM o p.1)) (h1 : ps.all psI = true) (h2 : ps.all psT = true) : Ct G GAM y d b vs I (Rv (fun v J => (∃ x, v = some (.int x)) ∧ TM I J)) := by
  refine h.weak (fun o J q => ?_)
  cases o with
  | inr E => exact (res_t q.2 h2).elim
  | inl v => exact ⟨res_i q.2 h1, q.1⟩
theorem ct_bk {G : Gx} {y : Ym} {d b : Nat} {vs : List Value} {I : Hi} (hX : P6 I) (h : Ct G GAM y d b vs I (Rv (fun v J => (∃ r, v = some (.int r)) ∧ BK I J))) : Ct G GAM y d b vs I (Rv (fun v J => (∃ x, v = some (.int x)) ∧ WQ I J)) := by
  refine h.weak (fun o J q => ?_)
  cases o with
  | inr E => exact q.elim
  | inl v => exact ⟨q.1, BK.w hX q.2⟩
theorem WQ.refl {I : Hi} (hB : BX I) (hX : P6 I) : WQ I I := ⟨hB, hX, rfl, rfl, ⟨rfl, rfl⟩, ⟨fun _ _ => rfl, fun _ _ => rfl⟩, ⟨rfl, rfl, rfl, rfl⟩, fun _ _ => rfl, fun _ _ => rfl, fun _ _ => rfl, fun _ _ => rfl, fun _ _ => rfl, fun _ _ => rfl⟩
theorem WQ.thr {I : Hi} (hB : BX I) (hX : P6 I) (x : Int32) : WQ I (zup I 94 0 x) := BK.w hX (BK.thr hB hX.1 x)
section Tops
variable (G : Gx) (d : Nat) (I : Hi)
theorem xd_fault (hB : BX I) (hX : P6 I) : Ct G GAM mX9_fault d 0 [.ref 0] I (Rv (fun v J => v = some (.int (I 0 12)) ∧ WQ I J)) := by
  refine Ct.mk [some (.ref 0)] ?_
  refine Rn.aload_n dX9_fault_0 rfl rfl ?_
  refine Rn.getI dX9_fault_1 fd_X9_80_8 (by first | rfl | exact gC0 (by assumption) | exact gL0 (by assumption)) rfl ?_
  exact Rn.iret dX9_fault_4 rfl (⟨rfl, WQ.refl hB hX⟩)
theorem mo_fault (hB : BX I) (hX : P6 I) : Ct G GAM mX10_fault d 0 [.ref 94] I (Rv (fun v J => v = some (.int (I 94 14)) ∧ WQ I J)) := by
  refine (ct_fault G d I).weak (fun o K q => ?_)
  obtain ⟨rfl, rfl⟩ := q
  exact ⟨rfl, WQ.thr hB hX _⟩
theorem xd_dearest (hB : BX I) (hX : P6 I) : Ct G GAM mX9_dearest (d + 4) 0 [.ref 0] I (Rv (fun v J => (∃ x, v = some (.int x)) ∧ WQ I J)) := by
  have hc : Ct G GAM mX9_dearest (4 + d) 0 [.ref 0] I (fun o J => WQ I J ∧ ∃ p ∈ ct_96.2.2.2.2.2.2, resM o p.1) := ct_top (cc_96 (okX6 I) (manC6 I)) d [.ref 0] hB hX ⟨rfl, trivial⟩ (fun e he => nomatch he) (by decide +kernel) (by decide +kernel)
  rw [Nat.add_comm] at hc
  exact ct_rv hc (by decide) (by decide)
theorem xd_unlucky (hB : BX I) (hX : P6 I) : Ct G GAM mX9_unlucky (d + 2) 0 [.ref 0] I (Rv (fun v J => (∃ x, v = some (.int x)) ∧ WQ I J)) := by
  have hc : Ct G GAM mX9_unlucky (2 + d) 0 [.ref 0] I (fun o J => WQ I J ∧ ∃ p ∈ ct_97.2.2.2.2.2.2, resM o p.1) := ct_top (cc_97 (okX6 I) (manC6 I)) d [.ref 0] hB hX ⟨rfl, trivial⟩ (fun e he => nomatch he) (by decide +kernel) (by decide +kernel)
  rw [Nat.add_comm] at hc
  exact ct_rv hc (by decide) (by decide)
theorem xd_oldest (hB : BX I) (hX : P6 I) : Ct G GAM mX9_oldest (d + 1) 0 [.ref 0] I (Rv (fun v J => (∃ x, v = some (.int x)) ∧ WQ I J)) := by
  have hc : Ct G GAM mX9_oldest (1 + d) 0 [.ref 0] I (fun o J => WQ I J ∧ ∃ p ∈ ct_105.2.2.2.2.2.2, resM o p.1) := ct_top (cc_105 (okX6 I) (manC6 I)) d [.ref 0] hB hX ⟨rfl, trivial⟩ (fun e he => nomatch he) (by decide +kernel) (by decide +kernel)
  rw [Nat.add_comm] at hc
  exact ct_rv hc (by decide) (by decide)
theorem xd_stuck (hB : BX I) (hX : P6 I) : Ct G GAM mX9_stuck (d + 2) 0 [.ref 0] I (Rv (fun v J => (∃ x, v = some (.int x)) ∧ WQ I J)) := by
  have hc : Ct G GAM mX9_stuck (2 + d) 0 [.ref 0] I (fun o J => WQ I J ∧ ∃ p ∈ ct_106.2.2.2.2.2.2, resM o p.1) := ct_top (cc_106 (okX6 I) (manC6 I)) d [.ref 0] hB hX ⟨rfl, trivial⟩ (fun e he => nomatch he) (by decide +kernel) (by decide +kernel)
  rw [Nat.add_comm] at hc
  exact ct_rv hc (by decide) (by decide)
theorem xd_pawned (hB : BX I) (hX : P6 I) : Ct G GAM mX9_pawned (d + 2) 0 [.ref 0] I (Rv (fun v J => (∃ x, v = some (.int x)) ∧ WQ I J)) := by
  have hc : Ct G GAM mX9_pawned (2 + d) 0 [.ref 0] I (fun o J => WQ I J ∧ ∃ p ∈ ct_107.2.2.2.2.2.2, resM o p.1) := ct_top (cc_107 (okX6 I) (manC6 I)) d [.ref 0] hB hX ⟨rfl, trivial⟩ (fun e he => nomatch he) (by decide +kernel) (by decide +kernel)
  rw [Nat.add_comm] at hc
  exact ct_rv hc (by decide) (by decide)
theorem xd_blue (hB : BX I) (hX : P6 I) : Ct G GAM mX9_blue (d + 2) 0 [.ref 0] I (Rv (fun v J => (∃ x, v = some (.int x)) ∧ WQ I J)) := by
  have hc : Ct G GAM mX9_blue (2 + d) 0 [.ref 0] I (fun o J => WQ I J ∧ ∃ p ∈ ct_108.2.2.2.2.2.2, resM o p.1) := ct_top (cc_108 (okX6 I) (manC6 I)) d [.ref 0] hB hX ⟨rfl, trivial⟩ (fun e he => nomatch he) (by decide +kernel) (by decide +kernel)
  rw [Nat.add_comm] at hc
  exact ct_rv hc (by decide) (by decide)
theorem xd_alike (hB : BX I) (hX : P6 I) : Ct G GAM mX9_alike (d + 2) 0 [.ref 0] I (Rv (fun v J => (∃ x, v = some (.int x)) ∧ WQ I J)) := by
  have hc : Ct G GAM mX9_alike (2 + d) 0 [.ref 0] I (fun o J => WQ I J ∧ ∃ p ∈ ct_110.2.2.2.2.2.2, resM o p.1) := ct_top (cc_110 (okX6 I) (manC6 I)) d [.ref 0] hB hX ⟨rfl, trivial⟩ (fun e he => nomatch he) (by decide +kernel) (by decide +kernel)
  rw [Nat.add_comm] at hc
  exact ct_rv hc (by decide) (by decide)
theorem xd_odds (hB : BX I) (hX : P6 I) : Ct G GAM mX9_odds (d + 3) 0 [.ref 0] I (Rv (fun v J => (∃ x, v = some (.int x)) ∧ WQ I J)) := by
  have hc : Ct G GAM mX9_odds (3 + d) 0 [.ref 0] I (fun o J => WQ I J ∧ ∃ p ∈ ct_112.2.2.2.2.2.2, resM o p.1) := ct_top (cc_112 (okX6 I) (manC6 I)) d [.ref 0] hB hX ⟨rfl, trivial⟩ (fun e he => nomatch he) (by decide +kernel) (by decide +kernel)
  rw [Nat.add_comm] at hc
  exact ct_rv hc (by decide) (by decide)
theorem xd_seed (p0 : Int32) (hB : BX I) (hX : P6 I) : Ct G GAM mX9_seed (d + 0) 0 [.ref 0, .int p0] I (Rv (fun v J => (∃ x, v = some (.int x)) ∧ WQ I J)) := by
  have hc : Ct G GAM mX9_seed (0 + d) 0 [.ref 0, .int p0] I (fun o J => WQ I J ∧ ∃ p ∈ ct_126.2.2.2.2.2.2, resM o p.1) := ct_top (cc_126 (okX6 I) (manC6 I)) d [.ref 0, .int p0] hB hX ⟨rfl, inIv_F _, trivial⟩ (fun e he => nomatch he) (by decide +kernel) (by decide +kernel)
  rw [Nat.add_comm] at hc
  exact ct_rv hc (by decide) (by decide)
theorem xd_count (p0 : Int32) (hB : BX I) (hX : P6 I) : Ct G GAM mX9_count (d + 3) 0 [.ref 0, .int p0] I (Rv (fun v J => (∃ x, v = some (.int x)) ∧ WQ I J)) := by
  have hc : Ct G GAM mX9_count (3 + d) 0 [.ref 0, .int p0] I (fun o J => WQ I J ∧ ∃ p ∈ ct_130.2.2.2.2.2.2, resM o p.1) := ct_top (cc_130 (okX6 I) (manC6 I)) d [.ref 0, .int p0] hB hX ⟨rfl, inIv_F _, trivial⟩ (fun e he => nomatch he) (by decide +kernel) (by decide +kernel)
  rw [Nat.add_comm] at hc
  exact ct_rv hc (by decide) (by decide)
theorem mo_woman (p0 p1 : Int32) (hB : BX I) (hX : P6 I) : Ct G GAM mX10_woman (d + 3) 0 [.ref 94, .int p0, .int p1] I (Rv (fun v J => (∃ x, v = some (.int x)) ∧ WQ I J)) := by
  have hc : Ct G GAM mX10_woman (3 + d) 0 [.ref 94, .int p0, .int p1] I (fun o J => WQ I J ∧ ∃ p ∈ ct_156.2.2.2.2.2.2, resM o p.1) := ct_top (cm_156 (okX6 I) (manOK6 I)) d [.ref 94, .int p0, .int p1] hB hX ⟨rfl, inIv_F _, inIv_F _, trivial⟩ (fun e he => nomatch he) (by decide +kernel) (by decide +kernel)
  rw [Nat.add_comm] at hc
  exact ct_rv hc (by decide) (by decide)
theorem mo_thing (p0 p1 : Int32) (hB : BX I) (hX : P6 I) : Ct G GAM mX10_thing (d + 4) 0 [.ref 94, .int p0, .int p1] I (Rv (fun v J => (∃ x, v = some (.int x)) ∧ WQ I J)) := by
  have hc : Ct G GAM mX10_thing (4 + d) 0 [.ref 94, .int p0, .int p1] I (fun o J => WQ I J ∧ ∃ p ∈ ct_159.2.2.2.2.2.2, resM o p.1) := ct_top (cm_159 (okX6 I) (manOK6 I)) d [.ref 94, .int p0, .int p1] hB hX ⟨rfl, inIv_F _, inIv_F _, trivial⟩ (fun e he => nomatch he) (by decide +kernel) (by decide +kernel)
  rw [Nat.add_comm] at hc
  exact ct_rv hc (by decide) (by decide)
theorem mo_gain (p0 p1 : Int32) (hB : BX I) (hX : P6 I) : Ct G GAM mX10_gain (d + 8) 0 [.ref 94, .int p0, .int p1] I (Rv (fun v J => (∃ x, v = some (.int x)) ∧ WQ I J)) := by
  have hc : Ct G GAM mX10_gain (8 + d) 0 [.ref 94, .int p0, .int p1] I (fun o J => WQ I J ∧ ∃ p ∈ ct_167.2.2.2.2.2.2, resM o p.1) := ct_top (cm_167 (okX6 I) (manOK6 I)) d [.ref 94, .int p0, .int p1] hB hX ⟨rfl, inIv_F _, inIv_F _, trivial⟩ (fun e he => nomatch he) (by decide +kernel) (by decide +kernel)
  rw [Nat.add_comm] at hc
  exact ct_rv hc (by decide) (by decide)
theorem mo_flows (p0 p1 p2 : Int32) (hB : BX I) (hX : P6 I) : Ct G GAM mX10_flows (d + 6) 0 [.ref 94, .int p0, .int p1, .int p2] I (Rv (fun v J => (∃ x, v = some (.int x)) ∧ WQ I J)) := by
  have hc : Ct G GAM mX10_flows (6 + d) 0 [.ref 94, .int p0, .int p1, .int p2] I (fun o J => WQ I J ∧ ∃ p ∈ ct_168.2.2.2.2.2.2, resM o p.1) := ct_top (cm_168 (okX6 I) (manOK6 I)) d [.ref 94, .int p0, .int p1, .int p2] hB hX ⟨rfl, inIv_F _, inIv_F _, inIv_F _, trivial⟩ (fun e he => nomatch he) (by decide +kernel) (by decide +kernel)
  rw [Nat.add_comm] at hc
  exact ct_rv hc (by decide) (by decide)
theorem mo_lend (p0 p1 : Int32) (hB : BX I) (hX : P6 I) : Ct G GAM mX10_lend (d + 4) 0 [.ref 94, .int p0, .int p1] I (Rv (fun v J => (∃ x, v = some (.int x)) ∧ WQ I J)) := by
  have hc : Ct G GAM mX10_lend (4 + d) 0 [.ref 94, .int p0, .int p1] I (fun o J => WQ I J ∧ ∃ p ∈ ct_170.2.2.2.2.2.2, resM o p.1) := ct_top (cm_170 (okX6 I) (manOK6 I)) d [.ref 94, .int p0, .int p1] hB hX ⟨rfl, inIv_F _, inIv_F _, trivial⟩ (fun e he => nomatch he) (by decide +kernel) (by decide +kernel)
  rw [Nat.add_comm] at hc
  exact ct_rv hc (by decide) (by decide)
theorem mo_wed (p0 p1 : Int32) (hB : BX I) (hX : P6 I) : Ct G GAM mX10_wed (d + 8) 0 [.ref 94, .int p0, .int p1] I (Rv (fun v J => (∃ x, v = some (.int x)) ∧ WQ I J)) := by
  have hc : Ct G GAM mX10_wed (8 + d) 0 [.ref 94, .int p0, .int p1] I (fun o J => WQ I J ∧ ∃ p ∈ ct_172.2.2.2.2.2.2, resM o p.1) := ct_top (cm_172 (okX6 I) (manOK6 I)) d [.ref 94, .int p0, .int p1] hB hX ⟨rfl, inIv_F _, inIv_F _, trivial⟩ (fun e he => nomatch he) (by decide +kernel) (by decide +kernel)
  rw [Nat.add_comm] at hc
  exact ct_rv hc (by decide) (by decide)
theorem mo_pawn (p0 : Int32) (hB : BX I) (hX : P6 I) : Ct G GAM mX10_pawn (d + 3) 0 [.ref 94, .int p0] I (Rv (fun v J => (∃ x, v = some (.int x)) ∧ WQ I J)) := by
  have hc : Ct G GAM mX10_pawn (3 + d) 0 [.ref 94, .int p0] I (fun o J => WQ I J ∧ ∃ p ∈ ct_173.2.2.2.2.2.2, resM o p.1) := ct_top (cm_173 (okX6 I) (manOK6 I)) d [.ref 94, .int p0] hB hX ⟨rfl, inIv_F _, trivial⟩ (fun e he => nomatch he) (by decide +kernel) (by decide +kernel)
  rw [Nat.add_comm] at hc
  exact ct_rv hc (by decide) (by decide)
theorem mo_redeem (p0 : Int32) (hB : BX I) (hX : P6 I) : Ct G GAM mX10_redeem (d + 3) 0 [.ref 94, .int p0] I (Rv (fun v J => (∃ x, v = some (.int x)) ∧ WQ I J)) := by
  have hc : Ct G GAM mX10_redeem (3 + d) 0 [.ref 94, .int p0] I (fun o J => WQ I J ∧ ∃ p ∈ ct_174.2.2.2.2.2.2, resM o p.1) := ct_top (cm_174 (okX6 I) (manOK6 I)) d [.ref 94, .int p0] hB hX ⟨rfl, inIv_F _, trivial⟩ (fun e he => nomatch he) (by decide +kernel) (by decide +kernel)
  rw [Nat.add_comm] at hc
  exact ct_rv hc (by decide) (by decide)
theorem mo_cut (p0 : Int32) (hB : BX I) (hX : P6 I) : Ct G GAM mX10_cut (d + 3) 0 [.ref 94, .int p0] I (Rv (fun v J => (∃ x, v = some (.int x)) ∧ WQ I J)) := by
  have hc : Ct G GAM mX10_cut (3 + d) 0 [.ref 94, .int p0] I (fun o J => WQ I J ∧ ∃ p ∈ ct_175.2.2.2.2.2.2, resM o p.1) := ct_top (cm_175 (okX6 I) (manOK6 I)) d [.ref 94, .int p0] hB hX ⟨rfl, inIv_F _, trivial⟩ (fun e he => nomatch he) (by decide +kernel) (by decide +kernel)
  rw [Nat.add_comm] at hc
  exact ct_rv hc (by decide) (by decide)
theorem mo_widow (p0 p1 : Int32) (hz1 : inIv (0, 1) p1) (hB : BX I) (hX : P6 I) : Ct G GAM mX10_widow (d + 3) 0 [.ref 94, .int p0, .int p1] I (Rv (fun v J => (∃ x, v = some (.int x)) ∧ WQ I J)) := by
  have hc : Ct G GAM mX10_widow (3 + d) 0 [.ref 94, .int p0, .int p1] I (fun o J => WQ I J ∧ ∃ p ∈ ct_176.2.2.2.2.2.2, resM o p.1) := ct_top (cm_176 (okX6 I) (manOK6 I)) d [.ref 94, .int p0, .int p1] hB hX ⟨rfl, inIv_F _, hz1, trivial⟩ (fun e he => nomatch he) (by decide +kernel) (by decide +kernel)
  rw [Nat.add_comm] at hc
  exact ct_rv hc (by decide) (by decide)
theorem mo_days (p0 : Int32) (hB : BX I) (hX : P6 I) : Ct G GAM mX10_days (d + 10) 0 [.ref 94, .int p0] I (Rv (fun v J => (∃ x, v = some (.int x)) ∧ WQ I J)) := by
  have hc : Ct G GAM mX10_days (10 + d) 0 [.ref 94, .int p0] I (fun o J => WQ I J ∧ ∃ p ∈ ct_181.2.2.2.2.2.2, resM o p.1) := ct_top (cm_181 (okX6 I) (manOK6 I)) d [.ref 94, .int p0] hB hX ⟨rfl, inIv_F _, trivial⟩ (fun e he => nomatch he) (by decide +kernel) (by decide +kernel)
  rw [Nat.add_comm] at hc
  exact ct_rv hc (by decide) (by decide)
theorem mo_best (p0 : Int32) (hB : BX I) (hX : P6 I) : Ct G GAM mX10_best (d + 8) 0 [.ref 94, .int p0] I (Rv (fun v J => (∃ x, v = some (.int x)) ∧ WQ I J)) := by
  have hc : Ct G GAM mX10_best (8 + d) 0 [.ref 94, .int p0] I (fun o J => WQ I J ∧ ∃ p ∈ ct_185.2.2.2.2.2.2, resM o p.1) := ct_top (cm_185 (okX6 I) (manOK6 I)) d [.ref 94, .int p0] hB hX ⟨rfl, inIv_F _, trivial⟩ (fun e he => nomatch he) (by decide +kernel) (by decide +kernel)
  rw [Nat.add_comm] at hc
  exact ct_rv hc (by decide) (by decide)
theorem mo_order (p0 p1 p2 : Int32) (hB : BX I) (hX : P6 I) : Ct G GAM mX10_order (d + 9) 0 [.ref 94, .int p0, .int p1, .int p2] I (Rv (fun v J => (∃ x, v = some (.int x)) ∧ WQ I J)) := (mn_order G d I (okX6 I) (manOK6 I) hB hX.x p0 p1 p2).weak (fun o J h => by
  obtain ⟨a1, a2, a3, p, hp, a4, -⟩ := h
  cases List.mem_singleton.mp hp
  obtain ⟨x, rfl, -⟩ := resM_int a4
  exact ⟨⟨x, rfl⟩, kO_ok a3 a1 a2 (by decide +kernel) (by decide +kernel)⟩)
theorem mo_lowest (p0 p1 : Int32) (hB : BX I) (hX : P6 I) : Ct G GAM mX10_lowest (d + 9) 0 [.ref 94, .int p0, .int p1] I (Rv (fun v J => (∃ x, v = some (.int x)) ∧ WQ I J)) := (mn_lowest G d I (okX6 I) (manOK6 I) hB hX.x p0 p1).weak (fun o J h => by
  obtain ⟨a1, a2, a3, p, hp, a4, -⟩ := h
  cases List.mem_singleton.mp hp
  obtain ⟨x, rfl, -⟩ := resM_int a4
  exact ⟨⟨x, rfl⟩, kO_ok a3 a1 a2 (by decide +kernel) (by decide +kernel)⟩)
theorem mo_reach (p0 p1 p2 p3 : Int32) (hB : BX I) (hX : P6 I) : Ct G GAM mX10_reach (d + 8) 0 [.ref 94, .int p0, .int p1, .int p2, .int p3] I (Rv (fun v J => (∃ x, v = some (.int x)) ∧ WQ I J)) := ct_bk hX (bk_reach G d I hB hX.1 p0 p1 p2 p3)
theorem mo_chain (p0 : Int32) (hB : BX I) (hX : P6 I) : Ct G GAM mX10_chain (d + 2) 0 [.ref 94, .int p0] I (Rv (fun v J => (∃ x, v = some (.int x)) ∧ WQ I J)) := by
  have hc : Ct G GAM mX10_chain (2 + d) 0 [.ref 94, .int p0] I (fun o J => WQ I J ∧ ∃ p ∈ ct_187.2.2.2.2.2.2, resM o p.1) := ct_top (cm_187 (okX6 I) (manOK6 I)) d [.ref 94, .int p0] hB hX ⟨rfl, inIv_F _, trivial⟩ (fun e he => nomatch he) (by decide +kernel) (by decide +kernel)
  rw [Nat.add_comm] at hc
  exact ct_rv hc (by decide) (by decide)
theorem mo_since (p0 p1 : Int32) (hB : BX I) (hX : P6 I) : Ct G GAM mX10_since (d + 2) 0 [.ref 94, .int p0, .int p1] I (Rv (fun v J => (∃ x, v = some (.int x)) ∧ WQ I J)) := by
  have hc : Ct G GAM mX10_since (2 + d) 0 [.ref 94, .int p0, .int p1] I (fun o J => WQ I J ∧ ∃ p ∈ ct_188.2.2.2.2.2.2, resM o p.1) := ct_top (cm_188 (okX6 I) (manOK6 I)) d [.ref 94, .int p0, .int p1] hB hX ⟨rfl, inIv_F _, inIv_F _, trivial⟩ (fun e he => nomatch he) (by decide +kernel) (by decide +kernel)
  rw [Nat.add_comm] at hc
  exact ct_rv hc (by decide) (by decide)
theorem mo_whose (hB : BX I) (hX : P6 I) : Ct G GAM mX10_whose (d + 3) 0 [.ref 94] I (Rv (fun v J => (∃ x, v = some (.int x)) ∧ TM I J)) := by
  have hc : Ct G GAM mX10_whose (3 + d) 0 [.ref 94] I (fun o J => TM I J ∧ ∃ p ∈ ct_190.2.2.2.2.2.2, resM o p.1) := ct_topM (cm_190 (okX6 I) (manOK6 I)) d [.ref 94] hB hX ⟨rfl, trivial⟩ (fun e he => nomatch he) (by decide +kernel) (by decide +kernel)
  rw [Nat.add_comm] at hc
  exact ct_rvM hc (by decide) (by decide)
theorem mo_next (hB : BX I) (hX : P6 I) : Ct G GAM mX10_next (d + 3) 0 [.ref 94] I (Rv (fun v J => (∃ x, v = some (.int x)) ∧ TM I J)) := by
  have hc : Ct G GAM mX10_next (3 + d) 0 [.ref 94] I (fun o J => TM I J ∧ ∃ p ∈ ct_191.2.2.2.2.2.2, resM o p.1) := ct_topM (cm_191 (okX6 I) (manOK6 I)) d [.ref 94] hB hX ⟨rfl, trivial⟩ (fun e he => nomatch he) (by decide +kernel) (by decide +kernel)
  rw [Nat.add_comm] at hc
  exact ct_rvM hc (by decide) (by decide)
theorem mo_match (p0 p1 : Int32) (hB : BX I) (hX : P6 I) : Ct G GAM mX10_match (d + 10) 0 [.ref 94, .int p0, .int p1] I (Rv (fun v J => (∃ x, v = some (.int x)) ∧ WQ I J)) := (lw_match G d I hB hX.1 p0 p1).weak (fun o J h => by
  have hw := h.w hX
  obtain ⟨⟨⟨x, rfl⟩, -⟩, -⟩ := h
  exact ⟨⟨x, rfl⟩, hw⟩)
theorem mo_rests (p0 p1 p2 : Int32) (hB : BX I) (hX : P6 I) : Ct G GAM mX10_rests (d + 9) 0 [.ref 94, .int p0, .int p1, .int p2] I (Rv (fun v J => (∃ x, v = some (.int x)) ∧ WQ I J)) := by
  have hc : Ct G GAM mX10_rests (9 + d) 0 [.ref 94, .int p0, .int p1, .int p2] I (fun o J => WQ I J ∧ ∃ p ∈ ct_201.2.2.2.2.2.2, resM o p.1) := ct_top (cm_201 (okX6 I) (manOK6 I)) d [.ref 94, .int p0, .int p1, .int p2] hB hX ⟨rfl, inIv_F _, inIv_F _, inIv_F _, trivial⟩ (fun e he => nomatch he) (by decide +kernel) (by decide +kernel)
  rw [Nat.add_comm] at hc
  exact ct_rv hc (by decide) (by decide)
theorem mo_sells (p0 : Int32) (hB : BX I) (hX : P6 I) : Ct G GAM mX10_sells (d + 5) 0 [.ref 94, .int p0] I (Rv (fun v J => (∃ x, v = some (.int x)) ∧ WQ I J)) := by
  have hc : Ct G GAM mX10_sells (5 + d) 0 [.ref 94, .int p0] I (fun o J => WQ I J ∧ ∃ p ∈ ct_203.2.2.2.2.2.2, resM o p.1) := ct_top (cm_203 (okX6 I) (manOK6 I)) d [.ref 94, .int p0] hB hX ⟨rfl, inIv_F _, trivial⟩ (fun e he => nomatch he) (by decide +kernel) (by decide +kernel)
  rw [Nat.add_comm] at hc
  exact ct_rv hc (by decide) (by decide)
theorem mo_dearest (hB : BX I) (hX : P6 I) : Ct G GAM mX10_dearest (d + 5) 0 [.ref 94] I (Rv (fun v J => (∃ x, v = some (.int x)) ∧ WQ I J)) := by
  have hc : Ct G GAM mX10_dearest (5 + d) 0 [.ref 94] I (fun o J => WQ I J ∧ ∃ p ∈ ct_205.2.2.2.2.2.2, resM o p.1) := ct_top (cm_205 (okX6 I) (manOK6 I)) d [.ref 94] hB hX ⟨rfl, trivial⟩ (fun e he => nomatch he) (by decide +kernel) (by decide +kernel)
  rw [Nat.add_comm] at hc
  exact ct_rv hc (by decide) (by decide)
theorem mo_unlucky (hB : BX I) (hX : P6 I) : Ct G GAM mX10_unlucky (d + 3) 0 [.ref 94] I (Rv (fun v J => (∃ x, v = some (.int x)) ∧ WQ I J)) := by
  have hc : Ct G GAM mX10_unlucky (3 + d) 0 [.ref 94] I (fun o J => WQ I J ∧ ∃ p ∈ ct_206.2.2.2.2.2.2, resM o p.1) := ct_top (cm_206 (okX6 I) (manOK6 I)) d [.ref 94] hB hX ⟨rfl, trivial⟩ (fun e he => nomatch he) (by decide +kernel) (by decide +kernel)
  rw [Nat.add_comm] at hc
  exact ct_rv hc (by decide) (by decide)
theorem mo_luckiest (p0 : Int32) (hB : BX I) (hX : P6 I) : Ct G GAM mX10_luckiest (d + 2) 0 [.ref 94, .int p0] I (Rv (fun v J => (∃ x, v = some (.int x)) ∧ WQ I J)) := by
  have hc : Ct G GAM mX10_luckiest (2 + d) 0 [.ref 94, .int p0] I (fun o J => WQ I J ∧ ∃ p ∈ ct_207.2.2.2.2.2.2, resM o p.1) := ct_top (cm_207 (okX6 I) (manOK6 I)) d [.ref 94, .int p0] hB hX ⟨rfl, inIv_F _, trivial⟩ (fun e he => nomatch he) (by decide +kernel) (by decide +kernel)
  rw [Nat.add_comm] at hc
  exact ct_rv hc (by decide) (by decide)
theorem mo_ring (p0 : Int32) (hB : BX I) (hX : P6 I) : Ct G GAM mX10_ring (d + 4) 0 [.ref 94, .int p0] I (Rv (fun v J => (∃ x, v = some (.int x)) ∧ WQ I J)) := by
  have hc : Ct G GAM mX10_ring (4 + d) 0 [.ref 94, .int p0] I (fun o J => WQ I J ∧ ∃ p ∈ ct_209.2.2.2.2.2.2, resM o p.1) := ct_top (cm_209 (okX6 I) (manOK6 I)) d [.ref 94, .int p0] hB hX ⟨rfl, inIv_F _, trivial⟩ (fun e he => nomatch he) (by decide +kernel) (by decide +kernel)
  rw [Nat.add_comm] at hc
  exact ct_rv hc (by decide) (by decide)
theorem mo_runs (p0 p1 : Int32) (hB : BX I) (hX : P6 I) : Ct G GAM mX10_runs (d + 9) 0 [.ref 94, .int p0, .int p1] I (Rv (fun v J => (∃ x, v = some (.int x)) ∧ WQ I J)) := ct_bk hX (bk_runs G d I hB hX.1 p0 p1)
theorem mo_spent (p0 : Int32) (hB : BX I) (hX : P6 I) : Ct G GAM mX10_spent (d + 9) 0 [.ref 94, .int p0] I (Rv (fun v J => (∃ x, v = some (.int x)) ∧ WQ I J)) := ct_bk hX (bk_spent G d I hB hX.1 p0)
theorem mo_oldest (hB : BX I) (hX : P6 I) : Ct G GAM mX10_oldest (d + 2) 0 [.ref 94] I (Rv (fun v J => (∃ x, v = some (.int x)) ∧ WQ I J)) := by
  have hc : Ct G GAM mX10_oldest (2 + d) 0 [.ref 94] I (fun o J => WQ I J ∧ ∃ p ∈ ct_210.2.2.2.2.2.2, resM o p.1) := ct_top (cm_210 (okX6 I) (manOK6 I)) d [.ref 94] hB hX ⟨rfl, trivial⟩ (fun e he => nomatch he) (by decide +kernel) (by decide +kernel)
  rw [Nat.add_comm] at hc
  exact ct_rv hc (by decide) (by decide)
theorem mo_stuck (hB : BX I) (hX : P6 I) : Ct G GAM mX10_stuck (d + 3) 0 [.ref 94] I (Rv (fun v J => (∃ x, v = some (.int x)) ∧ WQ I J)) := by
  have hc : Ct G GAM mX10_stuck (3 + d) 0 [.ref 94] I (fun o J => WQ I J ∧ ∃ p ∈ ct_212.2.2.2.2.2.2, resM o p.1) := ct_top (cm_212 (okX6 I) (manOK6 I)) d [.ref 94] hB hX ⟨rfl, trivial⟩ (fun e he => nomatch he) (by decide +kernel) (by decide +kernel)
  rw [Nat.add_comm] at hc
  exact ct_rv hc (by decide) (by decide)
theorem mo_pawned (hB : BX I) (hX : P6 I) : Ct G GAM mX10_pawned (d + 3) 0 [.ref 94] I (Rv (fun v J => (∃ x, v = some (.int x)) ∧ WQ I J)) := by
  have hc : Ct G GAM mX10_pawned (3 + d) 0 [.ref 94] I (fun o J => WQ I J ∧ ∃ p ∈ ct_214.2.2.2.2.2.2, resM o p.1) := ct_top (cm_214 (okX6 I) (manOK6 I)) d [.ref 94] hB hX ⟨rfl, trivial⟩ (fun e he => nomatch he) (by decide +kernel) (by decide +kernel)
  rw [Nat.add_comm] at hc
  exact ct_rv hc (by decide) (by decide)
theorem mo_blue (hB : BX I) (hX : P6 I) : Ct G GAM mX10_blue (d + 3) 0 [.ref 94] I (Rv (fun v J => (∃ x, v = some (.int x)) ∧ WQ I J)) := by
  have hc : Ct G GAM mX10_blue (3 + d) 0 [.ref 94] I (fun o J => WQ I J ∧ ∃ p ∈ ct_216.2.2.2.2.2.2, resM o p.1) := ct_top (cm_216 (okX6 I) (manOK6 I)) d [.ref 94] hB hX ⟨rfl, trivial⟩ (fun e he => nomatch he) (by decide +kernel) (by decide +kernel)
  rw [Nat.add_comm] at hc
  exact ct_rv hc (by decide) (by decide)
theorem mo_alike (hB : BX I) (hX : P6 I) : Ct G GAM mX10_alike (d + 3) 0 [.ref 94] I (Rv (fun v J => (∃ x, v = some (.int x)) ∧ WQ I J)) := by
  have hc : Ct G GAM mX10_alike (3 + d) 0 [.ref 94] I (fun o J => WQ I J ∧ ∃ p ∈ ct_219.2.2.2.2.2.2, resM o p.1) := ct_top (cm_219 (okX6 I) (manOK6 I)) d [.ref 94] hB hX ⟨rfl, trivial⟩ (fun e he => nomatch he) (by decide +kernel) (by decide +kernel)
  rw [Nat.add_comm] at hc
  exact ct_rv hc (by decide) (by decide)
theorem mo_share (p0 p1 : Int32) (hB : BX I) (hX : P6 I) : Ct G GAM mX10_share (d + 2) 0 [.ref 94, .int p0, .int p1] I (Rv (fun v J => (∃ x, v = some (.int x)) ∧ WQ I J)) := by
  have hc : Ct G GAM mX10_share (2 + d) 0 [.ref 94, .int p0, .int p1] I (fun o J => WQ I J ∧ ∃ p ∈ ct_220.2.2.2.2.2.2, resM o p.1) := ct_top (cm_220 (okX6 I) (manOK6 I)) d [.ref 94, .int p0, .int p1] hB hX ⟨rfl, inIv_F _, inIv_F _, trivial⟩ (fun e he => nomatch he) (by decide +kernel) (by decide +kernel)
  rw [Nat.add_comm] at hc
  exact ct_rv hc (by decide) (by decide)
theorem mo_odds (hB : BX I) (hX : P6 I) : Ct G GAM mX10_odds (d + 5) 0 [.ref 94] I (Rv (fun v J => (∃ x, v = some (.int x)) ∧ WQ I J)) := by
  have hc : Ct G GAM mX10_odds (5 + d) 0 [.ref 94] I (fun o J => WQ I J ∧ ∃ p ∈ ct_223.2.2.2.2.2.2, resM o p.1) := ct_top (cm_223 (okX6 I) (manOK6 I)) d [.ref 94] hB hX ⟨rfl, trivial⟩ (fun e he => nomatch he) (by decide +kernel) (by decide +kernel)
  rw [Nat.add_comm] at hc
  exact ct_rv hc (by decide) (by decide)
theorem mo_trial (p0 p1 : Int32) (hz1 : inIv (0, 1) p1) (hB : BX I) (hX : P6 I) : Ct G GAM mX10_trial (d + 10) 0 [.ref 94, .int p0, .int p1] I (Rv (fun v J => (∃ x, v = some (.int x)) ∧ WQ I J)) := ct_bk hX (bk_trial G d I hB hX.1 p0 p1)
theorem mo_span (p0 p1 : Int32) (hz1 : inIv (0, 1) p1) (hB : BX I) (hX : P6 I) : Ct G GAM mX10_span (d + 10) 0 [.ref 94, .int p0, .int p1] I (Rv (fun v J => (∃ x, v = some (.int x)) ∧ WQ I J)) := ct_bk hX (bk_span G d I hB hX.1 p0 p1)
theorem mo_led (p0 p1 : Int32) (hz1 : inIv (0, 1) p1) (hB : BX I) (hX : P6 I) : Ct G GAM mX10_led (d + 2) 0 [.ref 94, .int p0, .int p1] I (Rv (fun v J => (∃ x, v = some (.int x)) ∧ WQ I J)) := by
  have hc : Ct G GAM mX10_led (2 + d) 0 [.ref 94, .int p0, .int p1] I (fun o J => WQ I J ∧ ∃ p ∈ ct_224.2.2.2.2.2.2, resM o p.1) := ct_top (cm_224 (okX6 I) (manOK6 I)) d [.ref 94, .int p0, .int p1] hB hX ⟨rfl, inIv_F _, hz1, trivial⟩ (fun e he => nomatch he) (by decide +kernel) (by decide +kernel)
  rw [Nat.add_comm] at hc
  exact ct_rv hc (by decide) (by decide)
theorem mo_log (p0 p1 : Int32) (hB : BX I) (hX : P6 I) : Ct G GAM mX10_log (d + 1) 0 [.ref 94, .int p0, .int p1] I (Rv (fun v J => (∃ x, v = some (.int x)) ∧ WQ I J)) := by
  have hc : Ct G GAM mX10_log (1 + d) 0 [.ref 94, .int p0, .int p1] I (fun o J => WQ I J ∧ ∃ p ∈ ct_225.2.2.2.2.2.2, resM o p.1) := ct_top (cm_225 (okX6 I) (manOK6 I)) d [.ref 94, .int p0, .int p1] hB hX ⟨rfl, inIv_F _, inIv_F _, trivial⟩ (fun e he => nomatch he) (by decide +kernel) (by decide +kernel)
  rw [Nat.add_comm] at hc
  exact ct_rv hc (by decide) (by decide)
theorem mo_seed (p0 : Int32) (hB : BX I) (hX : P6 I) : Ct G GAM mX10_seed (d + 0) 0 [.ref 94, .int p0] I (Rv (fun v J => (∃ x, v = some (.int x)) ∧ WQ I J)) := by
  have hc : Ct G GAM mX10_seed (0 + d) 0 [.ref 94, .int p0] I (fun o J => WQ I J ∧ ∃ p ∈ ct_226.2.2.2.2.2.2, resM o p.1) := ct_top (cm_226 (okX6 I) (manOK6 I)) d [.ref 94, .int p0] hB hX ⟨rfl, inIv_F _, trivial⟩ (fun e he => nomatch he) (by decide +kernel) (by decide +kernel)
  rw [Nat.add_comm] at hc
  exact ct_rv hc (by decide) (by decide)
theorem mo_count (p0 : Int32) (hB : BX I) (hX : P6 I) : Ct G GAM mX10_count (d + 4) 0 [.ref 94, .int p0] I (Rv (fun v J => (∃ x, v = some (.int x)) ∧ WQ I J)) := by
  have hc : Ct G GAM mX10_count (4 + d) 0 [.ref 94, .int p0] I (fun o J => WQ I J ∧ ∃ p ∈ ct_228.2.2.2.2.2.2, resM o p.1) := ct_top (cm_228 (okX6 I) (manOK6 I)) d [.ref 94, .int p0] hB hX ⟨rfl, inIv_F _, trivial⟩ (fun e he => nomatch he) (by decide +kernel) (by decide +kernel)
  rw [Nat.add_comm] at hc
  exact ct_rv hc (by decide) (by decide)
end Tops
