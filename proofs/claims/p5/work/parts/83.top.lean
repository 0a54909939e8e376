/-! the calls, as the law's loop wants them -/
theorem LQk {I J : Hi} (e : ∀ c, c < 94 ∨ c = 100 → J c = I c) : KX I J ∧ KC I J := ⟨⟨by rw [e 38 (by decide)], by rw [e 37 (by decide)]⟩, fun j _ => by rw [e 2 (by decide)], fun j _ => by rw [e 100 (by decide)]⟩
theorem LQ.w {I J : Hi} {o : Rs} (h : LQ I (I 94 9) o J) : Rv (fun v J => (∃ x, v = some (.int x)) ∧ WQ I J) o J := by
  obtain ⟨⟨v, rfl⟩, a, b, c, z, e⟩ := h
  exact ⟨⟨v, rfl⟩, a, b, by rw [e 1 (by decide)], z, (LQk e).1, (LQk e).2⟩
theorem LQ.t {I J : Hi} {o : Rs} (h : LQ I (nI 0) o J) : Rv (fun v J => (∃ x, v = some (.int x)) ∧ TM I J) o J := by
  obtain ⟨⟨v, rfl⟩, a, b, c, z, e⟩ := h
  exact ⟨⟨v, rfl⟩, a, b, by rw [e 1 (by decide)], z, (LQk e).1⟩
theorem LQ2.t {I J : Hi} {o : Rs} (h : LQ2 I o J) : Rv (fun v J => (∃ x, v = some (.int x)) ∧ TM I J) o J := by
  obtain ⟨⟨v, rfl⟩, a, b, c, z, e⟩ := h
  exact ⟨⟨v, rfl⟩, a, b, e 1 1 (by decide) (by decide), z, e 38 0 (by decide) (by decide), e 37 0 (by decide) (by decide)⟩
theorem ct_rvM {G : Gx} {y : Ym} {d b : Nat} {vs : List Value} {I : Hi} {ps : List ((Option Iv ⊕ Nat) × Fa)} (h : Ct G GAM y d b vs I (fun o J => TM I J ∧ ∃ p ∈ ps, resM o p.1)) (h1 : ps.all psI = true) (h2 : ps.all psT = true) : Ct G GAM y d b vs I (Rv (fun v J => (∃ x, v = some (.int x)) ∧ TM I J)) := by
  refine h.weak (fun o J q => ?_)
  cases o with
  | inr E => exact (res_t q.2 h2).elim
  | inl v => exact ⟨res_i q.2 h1, q.1⟩
theorem ct_rv {G : Gx} {y : Ym} {d b : Nat} {vs : List Value} {I : Hi} {ps : List ((Option Iv ⊕ Nat) × Fa)} (h : Ct G GAM y d b vs I (fun o J => WQ I J ∧ ∃ p ∈ ps, resM o p.1)) (h1 : ps.all psI = true) (h2 : ps.all psT = true) : Ct G GAM y d b vs I (Rv (fun v J => (∃ x, v = some (.int x)) ∧ WQ I J)) := by
  refine h.weak (fun o J q => ?_)
  cases o with
  | inr E => exact (res_t q.2 h2).elim
  | inl v => exact ⟨res_i q.2 h1, q.1⟩
section Tops
variable (G : Gx) (d : Nat) (I : Hi) {c : Nat → Nat} {e : Nat}
theorem xd_fault (hB : BX I) (hX : XM I) : Ct G GAM mX9_fault (d + 0) 0 [.ref 0] I (Rv (fun v J => (∃ x, v = some (.int x)) ∧ WQ I J)) := by
  have hc : Ct G GAM mX9_fault (0 + d) 0 [.ref 0] I (fun o J => WQ I J ∧ ∃ p ∈ ct_54.2.2.2.2.2.2, resM o p.1) := ct_top (cc_54 okXM) d I [.ref 0] hB hX ⟨rfl, trivial⟩ (fun e he => nomatch he) (by decide) (by decide)
  rw [Nat.add_comm] at hc
  exact ct_rv hc (by decide) (by decide)
theorem xd_dearest (hB : BX I) (hX : XM I) : Ct G GAM mX9_dearest (d + 4) 0 [.ref 0] I (Rv (fun v J => (∃ x, v = some (.int x)) ∧ WQ I J)) := by
  have hc : Ct G GAM mX9_dearest (4 + d) 0 [.ref 0] I (fun o J => WQ I J ∧ ∃ p ∈ ct_150.2.2.2.2.2.2, resM o p.1) := ct_top (cc_150 okXM) d I [.ref 0] hB hX ⟨rfl, trivial⟩ (fun e he => nomatch he) (by decide) (by decide)
  rw [Nat.add_comm] at hc
  exact ct_rv hc (by decide) (by decide)
theorem xd_unlucky (hB : BX I) (hX : XM I) : Ct G GAM mX9_unlucky (d + 2) 0 [.ref 0] I (Rv (fun v J => (∃ x, v = some (.int x)) ∧ WQ I J)) := by
  have hc : Ct G GAM mX9_unlucky (2 + d) 0 [.ref 0] I (fun o J => WQ I J ∧ ∃ p ∈ ct_151.2.2.2.2.2.2, resM o p.1) := ct_top (cc_151 okXM) d I [.ref 0] hB hX ⟨rfl, trivial⟩ (fun e he => nomatch he) (by decide) (by decide)
  rw [Nat.add_comm] at hc
  exact ct_rv hc (by decide) (by decide)
theorem xd_oldest (hB : BX I) (hX : XM I) : Ct G GAM mX9_oldest (d + 1) 0 [.ref 0] I (Rv (fun v J => (∃ x, v = some (.int x)) ∧ WQ I J)) := by
  have hc : Ct G GAM mX9_oldest (1 + d) 0 [.ref 0] I (fun o J => WQ I J ∧ ∃ p ∈ ct_159.2.2.2.2.2.2, resM o p.1) := ct_top (cc_159 okXM) d I [.ref 0] hB hX ⟨rfl, trivial⟩ (fun e he => nomatch he) (by decide) (by decide)
  rw [Nat.add_comm] at hc
  exact ct_rv hc (by decide) (by decide)
theorem xd_stuck (hB : BX I) (hX : XM I) : Ct G GAM mX9_stuck (d + 2) 0 [.ref 0] I (Rv (fun v J => (∃ x, v = some (.int x)) ∧ WQ I J)) := by
  have hc : Ct G GAM mX9_stuck (2 + d) 0 [.ref 0] I (fun o J => WQ I J ∧ ∃ p ∈ ct_160.2.2.2.2.2.2, resM o p.1) := ct_top (cc_160 okXM) d I [.ref 0] hB hX ⟨rfl, trivial⟩ (fun e he => nomatch he) (by decide) (by decide)
  rw [Nat.add_comm] at hc
  exact ct_rv hc (by decide) (by decide)
theorem xd_pawned (hB : BX I) (hX : XM I) : Ct G GAM mX9_pawned (d + 2) 0 [.ref 0] I (Rv (fun v J => (∃ x, v = some (.int x)) ∧ WQ I J)) := by
  have hc : Ct G GAM mX9_pawned (2 + d) 0 [.ref 0] I (fun o J => WQ I J ∧ ∃ p ∈ ct_161.2.2.2.2.2.2, resM o p.1) := ct_top (cc_161 okXM) d I [.ref 0] hB hX ⟨rfl, trivial⟩ (fun e he => nomatch he) (by decide) (by decide)
  rw [Nat.add_comm] at hc
  exact ct_rv hc (by decide) (by decide)
theorem xd_blue (hB : BX I) (hX : XM I) : Ct G GAM mX9_blue (d + 2) 0 [.ref 0] I (Rv (fun v J => (∃ x, v = some (.int x)) ∧ WQ I J)) := by
  have hc : Ct G GAM mX9_blue (2 + d) 0 [.ref 0] I (fun o J => WQ I J ∧ ∃ p ∈ ct_162.2.2.2.2.2.2, resM o p.1) := ct_top (cc_162 okXM) d I [.ref 0] hB hX ⟨rfl, trivial⟩ (fun e he => nomatch he) (by decide) (by decide)
  rw [Nat.add_comm] at hc
  exact ct_rv hc (by decide) (by decide)
theorem xd_alike (hB : BX I) (hX : XM I) : Ct G GAM mX9_alike (d + 2) 0 [.ref 0] I (Rv (fun v J => (∃ x, v = some (.int x)) ∧ WQ I J)) := by
  have hc : Ct G GAM mX9_alike (2 + d) 0 [.ref 0] I (fun o J => WQ I J ∧ ∃ p ∈ ct_164.2.2.2.2.2.2, resM o p.1) := ct_top (cc_164 okXM) d I [.ref 0] hB hX ⟨rfl, trivial⟩ (fun e he => nomatch he) (by decide) (by decide)
  rw [Nat.add_comm] at hc
  exact ct_rv hc (by decide) (by decide)
theorem xd_odds (hB : BX I) (hX : XM I) : Ct G GAM mX9_odds (d + 3) 0 [.ref 0] I (Rv (fun v J => (∃ x, v = some (.int x)) ∧ WQ I J)) := by
  have hc : Ct G GAM mX9_odds (3 + d) 0 [.ref 0] I (fun o J => WQ I J ∧ ∃ p ∈ ct_166.2.2.2.2.2.2, resM o p.1) := ct_top (cc_166 okXM) d I [.ref 0] hB hX ⟨rfl, trivial⟩ (fun e he => nomatch he) (by decide) (by decide)
  rw [Nat.add_comm] at hc
  exact ct_rv hc (by decide) (by decide)
theorem xd_seed (p0 : Int32) (hB : BX I) (hX : XM I) : Ct G GAM mX9_seed (d + 0) 0 [.ref 0, .int p0] I (Rv (fun v J => (∃ x, v = some (.int x)) ∧ WQ I J)) := by
  have hc : Ct G GAM mX9_seed (0 + d) 0 [.ref 0, .int p0] I (fun o J => WQ I J ∧ ∃ p ∈ ct_179.2.2.2.2.2.2, resM o p.1) := ct_top (cc_179 okXM) d I [.ref 0, .int p0] hB hX ⟨rfl, inIv_F _, trivial⟩ (fun e he => nomatch he) (by decide) (by decide)
  rw [Nat.add_comm] at hc
  exact ct_rv hc (by decide) (by decide)
theorem xd_undo (hB : BX I) (hX : XM I) : Ct G GAM mX9_undo (d + 2) 0 [.ref 0] I (Rv (fun v J => (∃ x, v = some (.int x)) ∧ WQ I J)) := by
  have hc : Ct G GAM mX9_undo (2 + d) 0 [.ref 0] I (fun o J => WQ I J ∧ ∃ p ∈ ct_193.2.2.2.2.2.2, resM o p.1) := ct_top (cc_193 okXM) d I [.ref 0] hB hX ⟨rfl, trivial⟩ (fun e he => nomatch he) (by decide) (by decide)
  rw [Nat.add_comm] at hc
  exact ct_rv hc (by decide) (by decide)
theorem xd_image (hB : BX I) (hX : XM I) : Ct G GAM mX9_image (d + 1) 0 [.ref 0] I (Rv (fun v J => v = none ∧ WQ I J)) := by
  have hc : Ct G GAM mX9_image (1 + d) 0 [.ref 0] I _ := (cc_196 okXM) d I [.ref 0] hB hX ⟨rfl, trivial⟩ (fun e he => nomatch he)
  rw [Nat.add_comm] at hc
  refine hc.weak (fun o J q => ?_)
  obtain ⟨a1, a2, a3, p, hp, a4, a5⟩ := q
  cases List.mem_singleton.mp hp
  cases o with
  | inr E => exact a4.elim
  | inl v =>
    cases v with
    | some w => cases w <;> exact a4.elim
    | none => exact ⟨rfl, a1, a2, kO_ok a3 (by decide) (by decide)⟩
theorem xd_count (p0 : Int32) (hB : BX I) (hX : XM I) : Ct G GAM mX9_count (d + 3) 0 [.ref 0, .int p0] I (Rv (fun v J => (∃ x, v = some (.int x)) ∧ WQ I J)) := by
  have hc : Ct G GAM mX9_count (3 + d) 0 [.ref 0, .int p0] I (fun o J => WQ I J ∧ ∃ p ∈ ct_204.2.2.2.2.2.2, resM o p.1) := ct_top (cc_204 okXM) d I [.ref 0, .int p0] hB hX ⟨rfl, inIv_F _, trivial⟩ (fun e he => nomatch he) (by decide) (by decide)
  rw [Nat.add_comm] at hc
  exact ct_rv hc (by decide) (by decide)
theorem xd_back (hB : BX I) (hX : XM I) : Ct G GAM mX9_back (d + 1) 0 [.ref 0] I (Rv (fun v J => (∃ x, v = some (.int x)) ∧ WQ I J)) := by
  rcases bool_of (show inIv (0, 1) (I 0 11) from hB 0 11) with e | e
  · have hc : Ct G GAM mX9_back (0 + (d + 1)) 0 [.ref 0] I _ := (cc_197 okXM) (d + 1) I [.ref 0] hB hX ⟨rfl, trivial⟩ (fun q hq => by cases List.mem_singleton.mp hq; show inIv (0, 0) (I 0 11); rw [e]; exact ⟨by decide, by decide⟩)
    rw [show 0 + (d + 1) = d + 1 by omega] at hc
    refine hc.weak (fun o J q => ?_)
    obtain ⟨a1, a2, a3, p, hp, a4, -⟩ := q
    cases List.mem_singleton.mp hp
    obtain ⟨x, rfl, h1⟩ := resM_int a4
    have h1 : (0 : Int) ≤ x.toInt ∧ x.toInt ≤ 0 := h1
    have hx : x = I 0 11 := by rw [e]; exact Int32.toInt_inj.mp (by rw [show (0 : Int32).toInt = 0 from rfl]; omega)
    exact ⟨⟨x, rfl⟩, a1, a2, kO_ok a3 (by decide) (by decide)⟩
  · have hc : Ct G GAM mX9_back (1 + (d + 0)) 0 [.ref 0] I _ := (cc_200 okXM) (d + 0) I [.ref 0] hB hX ⟨rfl, trivial⟩ (fun q hq => by cases List.mem_singleton.mp hq; show inIv (1, 1) (I 0 11); rw [e]; exact ⟨by decide, by decide⟩)
    rw [show 1 + (d + 0) = d + 1 by omega] at hc
    refine hc.weak (fun o J q => ?_)
    obtain ⟨a1, a2, a3, p, hp, a4, -⟩ := q
    cases List.mem_singleton.mp hp
    obtain ⟨x, rfl, h1⟩ := resM_int a4
    have h1 : (1 : Int) ≤ x.toInt ∧ x.toInt ≤ 1 := h1
    have hx : x = I 0 11 := by rw [e]; exact Int32.toInt_inj.mp (by rw [show (1 : Int32).toInt = 1 from rfl]; omega)
    exact ⟨⟨x, rfl⟩, a1, a2, kO_ok a3 (by decide) (by decide)⟩
theorem mo_coast (hB : BX I) (hX : XM I) : Ct G GAM mX10_coast (d + 9 + 1) 0 [.ref 94] I (Rv (fun v J => (∃ x, v = some (.int x)) ∧ TM I J)) := (lw_coast G d I hB hX).weak (fun _ _ h => h.t)
theorem mo_law (hB : BX I) (hX : XM I) (hT : e ≤ 400 ∧ I 94 9 = nI e ∧ ∀ i, i < e → c i < 256 ∧ I 100 i = sb (c i)) : Ct G GAM mX10_law (d + 33) 0 [.ref 94] I (Rv (fun v J => TM I J ∧ J 107 = I 107 ∧ ((∃ n, n ≤ 12 ∧ gLaw c e = .inr n ∧ v = some (.int (nI n)) ∧ J 94 0 = nI 0) ∨ (∃ x r, gLaw c e = .inl x ∧ v = some (.int r) ∧ J 94 0 = nI 1)))) := (lw_law G d I hB hX hT).weak (fun o J h => by
  obtain ⟨hl, hf, -, h2⟩ := h
  obtain ⟨⟨v, rfl⟩, a, b, _, z, e9⟩ := hl
  refine ⟨⟨a, b, by rw [e9 1 (by decide)], z, (LQk e9).1⟩, hf 107 (by decide) (by decide), ?_⟩
  rcases h2 with ⟨n, hn, hg, h3, h4, -⟩ | ⟨x, -, hg, h4, -⟩
  · exact Or.inl ⟨n, hn, hg, Sum.inl.inj h3, h4⟩
  · exact Or.inr ⟨x, v, hg, rfl, h4⟩)
theorem mo_fault (hB : BX I) (hX : XM I) : Ct G GAM mX10_fault (d + 0) 0 [.ref 94] I (Rv (fun v J => (∃ x, v = some (.int x)) ∧ WQ I J)) := by
  have hc : Ct G GAM mX10_fault (0 + d) 0 [.ref 94] I (fun o J => WQ I J ∧ ∃ p ∈ ct_228.2.2.2.2.2.2, resM o p.1) := ct_top (cm_228 okXM manOK) d I [.ref 94] hB hX ⟨rfl, trivial⟩ (fun e he => nomatch he) (by decide) (by decide)
  rw [Nat.add_comm] at hc
  exact ct_rv hc (by decide) (by decide)
theorem mo_woman (p0 p1 : Int32) (hB : BX I) (hX : XM I) : Ct G GAM mX10_woman (d + 3) 0 [.ref 94, .int p0, .int p1] I (Rv (fun v J => (∃ x, v = some (.int x)) ∧ WQ I J)) := by
  have hc : Ct G GAM mX10_woman (3 + d) 0 [.ref 94, .int p0, .int p1] I (fun o J => WQ I J ∧ ∃ p ∈ ct_232.2.2.2.2.2.2, resM o p.1) := ct_top (cm_232 okXM manOK) d I [.ref 94, .int p0, .int p1] hB hX ⟨rfl, inIv_F _, inIv_F _, trivial⟩ (fun e he => nomatch he) (by decide) (by decide)
  rw [Nat.add_comm] at hc
  exact ct_rv hc (by decide) (by decide)
theorem mo_thing (p0 p1 : Int32) (hB : BX I) (hX : XM I) : Ct G GAM mX10_thing (d + 4) 0 [.ref 94, .int p0, .int p1] I (Rv (fun v J => (∃ x, v = some (.int x)) ∧ WQ I J)) := by
  have hc : Ct G GAM mX10_thing (4 + d) 0 [.ref 94, .int p0, .int p1] I (fun o J => WQ I J ∧ ∃ p ∈ ct_235.2.2.2.2.2.2, resM o p.1) := ct_top (cm_235 okXM manOK) d I [.ref 94, .int p0, .int p1] hB hX ⟨rfl, inIv_F _, inIv_F _, trivial⟩ (fun e he => nomatch he) (by decide) (by decide)
  rw [Nat.add_comm] at hc
  exact ct_rv hc (by decide) (by decide)
theorem mo_gain (p0 p1 : Int32) (hB : BX I) (hX : XM I) : Ct G GAM mX10_gain (d + 8) 0 [.ref 94, .int p0, .int p1] I (Rv (fun v J => (∃ x, v = some (.int x)) ∧ WQ I J)) := by
  have hc : Ct G GAM mX10_gain (8 + d) 0 [.ref 94, .int p0, .int p1] I (fun o J => WQ I J ∧ ∃ p ∈ ct_243.2.2.2.2.2.2, resM o p.1) := ct_top (cm_243 okXM manOK) d I [.ref 94, .int p0, .int p1] hB hX ⟨rfl, inIv_F _, inIv_F _, trivial⟩ (fun e he => nomatch he) (by decide) (by decide)
  rw [Nat.add_comm] at hc
  exact ct_rv hc (by decide) (by decide)
theorem mo_flows (p0 p1 p2 : Int32) (hB : BX I) (hX : XM I) : Ct G GAM mX10_flows (d + 6) 0 [.ref 94, .int p0, .int p1, .int p2] I (Rv (fun v J => (∃ x, v = some (.int x)) ∧ WQ I J)) := by
  have hc : Ct G GAM mX10_flows (6 + d) 0 [.ref 94, .int p0, .int p1, .int p2] I (fun o J => WQ I J ∧ ∃ p ∈ ct_244.2.2.2.2.2.2, resM o p.1) := ct_top (cm_244 okXM manOK) d I [.ref 94, .int p0, .int p1, .int p2] hB hX ⟨rfl, inIv_F _, inIv_F _, inIv_F _, trivial⟩ (fun e he => nomatch he) (by decide) (by decide)
  rw [Nat.add_comm] at hc
  exact ct_rv hc (by decide) (by decide)
theorem mo_lend (p0 p1 : Int32) (hB : BX I) (hX : XM I) : Ct G GAM mX10_lend (d + 4) 0 [.ref 94, .int p0, .int p1] I (Rv (fun v J => (∃ x, v = some (.int x)) ∧ WQ I J)) := by
  have hc : Ct G GAM mX10_lend (4 + d) 0 [.ref 94, .int p0, .int p1] I (fun o J => WQ I J ∧ ∃ p ∈ ct_246.2.2.2.2.2.2, resM o p.1) := ct_top (cm_246 okXM manOK) d I [.ref 94, .int p0, .int p1] hB hX ⟨rfl, inIv_F _, inIv_F _, trivial⟩ (fun e he => nomatch he) (by decide) (by decide)
  rw [Nat.add_comm] at hc
  exact ct_rv hc (by decide) (by decide)
theorem mo_wed (p0 p1 : Int32) (hB : BX I) (hX : XM I) : Ct G GAM mX10_wed (d + 8) 0 [.ref 94, .int p0, .int p1] I (Rv (fun v J => (∃ x, v = some (.int x)) ∧ WQ I J)) := by
  have hc : Ct G GAM mX10_wed (8 + d) 0 [.ref 94, .int p0, .int p1] I (fun o J => WQ I J ∧ ∃ p ∈ ct_248.2.2.2.2.2.2, resM o p.1) := ct_top (cm_248 okXM manOK) d I [.ref 94, .int p0, .int p1] hB hX ⟨rfl, inIv_F _, inIv_F _, trivial⟩ (fun e he => nomatch he) (by decide) (by decide)
  rw [Nat.add_comm] at hc
  exact ct_rv hc (by decide) (by decide)
theorem mo_pawn (p0 : Int32) (hB : BX I) (hX : XM I) : Ct G GAM mX10_pawn (d + 3) 0 [.ref 94, .int p0] I (Rv (fun v J => (∃ x, v = some (.int x)) ∧ WQ I J)) := by
  have hc : Ct G GAM mX10_pawn (3 + d) 0 [.ref 94, .int p0] I (fun o J => WQ I J ∧ ∃ p ∈ ct_249.2.2.2.2.2.2, resM o p.1) := ct_top (cm_249 okXM manOK) d I [.ref 94, .int p0] hB hX ⟨rfl, inIv_F _, trivial⟩ (fun e he => nomatch he) (by decide) (by decide)
  rw [Nat.add_comm] at hc
  exact ct_rv hc (by decide) (by decide)
theorem mo_redeem (p0 : Int32) (hB : BX I) (hX : XM I) : Ct G GAM mX10_redeem (d + 3) 0 [.ref 94, .int p0] I (Rv (fun v J => (∃ x, v = some (.int x)) ∧ WQ I J)) := by
  have hc : Ct G GAM mX10_redeem (3 + d) 0 [.ref 94, .int p0] I (fun o J => WQ I J ∧ ∃ p ∈ ct_250.2.2.2.2.2.2, resM o p.1) := ct_top (cm_250 okXM manOK) d I [.ref 94, .int p0] hB hX ⟨rfl, inIv_F _, trivial⟩ (fun e he => nomatch he) (by decide) (by decide)
  rw [Nat.add_comm] at hc
  exact ct_rv hc (by decide) (by decide)
theorem mo_cut (p0 : Int32) (hB : BX I) (hX : XM I) : Ct G GAM mX10_cut (d + 3) 0 [.ref 94, .int p0] I (Rv (fun v J => (∃ x, v = some (.int x)) ∧ WQ I J)) := by
  have hc : Ct G GAM mX10_cut (3 + d) 0 [.ref 94, .int p0] I (fun o J => WQ I J ∧ ∃ p ∈ ct_251.2.2.2.2.2.2, resM o p.1) := ct_top (cm_251 okXM manOK) d I [.ref 94, .int p0] hB hX ⟨rfl, inIv_F _, trivial⟩ (fun e he => nomatch he) (by decide) (by decide)
  rw [Nat.add_comm] at hc
  exact ct_rv hc (by decide) (by decide)
theorem mo_widow (p0 p1 : Int32) (hz1 : inIv (0, 1) p1) (hB : BX I) (hX : XM I) : Ct G GAM mX10_widow (d + 3) 0 [.ref 94, .int p0, .int p1] I (Rv (fun v J => (∃ x, v = some (.int x)) ∧ WQ I J)) := by
  have hc : Ct G GAM mX10_widow (3 + d) 0 [.ref 94, .int p0, .int p1] I (fun o J => WQ I J ∧ ∃ p ∈ ct_252.2.2.2.2.2.2, resM o p.1) := ct_top (cm_252 okXM manOK) d I [.ref 94, .int p0, .int p1] hB hX ⟨rfl, inIv_F _, hz1, trivial⟩ (fun e he => nomatch he) (by decide) (by decide)
  rw [Nat.add_comm] at hc
  exact ct_rv hc (by decide) (by decide)
theorem mo_days (p0 : Int32) (hB : BX I) (hX : XM I) : Ct G GAM mX10_days (d + 10) 0 [.ref 94, .int p0] I (Rv (fun v J => (∃ x, v = some (.int x)) ∧ WQ I J)) := by
  have hc : Ct G GAM mX10_days (10 + d) 0 [.ref 94, .int p0] I (fun o J => WQ I J ∧ ∃ p ∈ ct_257.2.2.2.2.2.2, resM o p.1) := ct_top (cm_257 okXM manOK) d I [.ref 94, .int p0] hB hX ⟨rfl, inIv_F _, trivial⟩ (fun e he => nomatch he) (by decide) (by decide)
  rw [Nat.add_comm] at hc
  exact ct_rv hc (by decide) (by decide)
theorem mo_best (p0 : Int32) (hB : BX I) (hX : XM I) : Ct G GAM mX10_best (d + 8) 0 [.ref 94, .int p0] I (Rv (fun v J => (∃ x, v = some (.int x)) ∧ WQ I J)) := by
  have hc : Ct G GAM mX10_best (8 + d) 0 [.ref 94, .int p0] I (fun o J => WQ I J ∧ ∃ p ∈ ct_261.2.2.2.2.2.2, resM o p.1) := ct_top (cm_261 okXM manOK) d I [.ref 94, .int p0] hB hX ⟨rfl, inIv_F _, trivial⟩ (fun e he => nomatch he) (by decide) (by decide)
  rw [Nat.add_comm] at hc
  exact ct_rv hc (by decide) (by decide)
theorem mo_order (p0 p1 p2 : Int32) (hB : BX I) (hX : XM I) : Ct G GAM mX10_order (d + 9) 0 [.ref 94, .int p0, .int p1, .int p2] I (Rv (fun v J => (∃ x, v = some (.int x)) ∧ WQ I J)) := (mn_order G d I hB hX p0 p1 p2).weak (fun o J h => by
  obtain ⟨a1, a2, a3, p, hp, a4, -⟩ := h
  cases List.mem_singleton.mp hp
  obtain ⟨x, rfl, -⟩ := resM_int a4
  exact ⟨⟨x, rfl⟩, a1, a2, kO_ok a3 (by decide) (by decide)⟩)
theorem mo_lowest (p0 p1 : Int32) (hB : BX I) (hX : XM I) : Ct G GAM mX10_lowest (d + 9) 0 [.ref 94, .int p0, .int p1] I (Rv (fun v J => (∃ x, v = some (.int x)) ∧ WQ I J)) := (mn_lowest G d I hB hX p0 p1).weak (fun o J h => by
  obtain ⟨a1, a2, a3, p, hp, a4, -⟩ := h
  cases List.mem_singleton.mp hp
  obtain ⟨x, rfl, -⟩ := resM_int a4
  exact ⟨⟨x, rfl⟩, a1, a2, kO_ok a3 (by decide) (by decide)⟩)
theorem mo_reach (p0 p1 p2 p3 : Int32) (hB : BX I) (hX : XM I) : Ct G GAM mX10_reach (d + 8) 0 [.ref 94, .int p0, .int p1, .int p2, .int p3] I (Rv (fun v J => (∃ x, v = some (.int x)) ∧ WQ I J)) := by
  have hc : Ct G GAM mX10_reach (8 + d) 0 [.ref 94, .int p0, .int p1, .int p2, .int p3] I (fun o J => WQ I J ∧ ∃ p ∈ ct_262.2.2.2.2.2.2, resM o p.1) := ct_top (cm_262 okXM manOK) d I [.ref 94, .int p0, .int p1, .int p2, .int p3] hB hX ⟨rfl, inIv_F _, inIv_F _, inIv_F _, inIv_F _, trivial⟩ (fun e he => nomatch he) (by decide) (by decide)
  rw [Nat.add_comm] at hc
  exact ct_rv hc (by decide) (by decide)
theorem mo_chain (p0 : Int32) (hB : BX I) (hX : XM I) : Ct G GAM mX10_chain (d + 2) 0 [.ref 94, .int p0] I (Rv (fun v J => (∃ x, v = some (.int x)) ∧ WQ I J)) := by
  have hc : Ct G GAM mX10_chain (2 + d) 0 [.ref 94, .int p0] I (fun o J => WQ I J ∧ ∃ p ∈ ct_264.2.2.2.2.2.2, resM o p.1) := ct_top (cm_264 okXM manOK) d I [.ref 94, .int p0] hB hX ⟨rfl, inIv_F _, trivial⟩ (fun e he => nomatch he) (by decide) (by decide)
  rw [Nat.add_comm] at hc
  exact ct_rv hc (by decide) (by decide)
theorem mo_since (p0 p1 : Int32) (hB : BX I) (hX : XM I) : Ct G GAM mX10_since (d + 2) 0 [.ref 94, .int p0, .int p1] I (Rv (fun v J => (∃ x, v = some (.int x)) ∧ WQ I J)) := by
  have hc : Ct G GAM mX10_since (2 + d) 0 [.ref 94, .int p0, .int p1] I (fun o J => WQ I J ∧ ∃ p ∈ ct_265.2.2.2.2.2.2, resM o p.1) := ct_top (cm_265 okXM manOK) d I [.ref 94, .int p0, .int p1] hB hX ⟨rfl, inIv_F _, inIv_F _, trivial⟩ (fun e he => nomatch he) (by decide) (by decide)
  rw [Nat.add_comm] at hc
  exact ct_rv hc (by decide) (by decide)
theorem mo_whose (hB : BX I) (hX : XM I) : Ct G GAM mX10_whose (d + 3) 0 [.ref 94] I (Rv (fun v J => (∃ x, v = some (.int x)) ∧ TM I J)) := by
  have hc : Ct G GAM mX10_whose (3 + d) 0 [.ref 94] I (fun o J => TM I J ∧ ∃ p ∈ ct_267.2.2.2.2.2.2, resM o p.1) := ct_topM (cm_267 okXM manOK) d I [.ref 94] hB hX ⟨rfl, trivial⟩ (fun e he => nomatch he) (by decide) (by decide)
  rw [Nat.add_comm] at hc
  exact ct_rvM hc (by decide) (by decide)
theorem mo_next (hB : BX I) (hX : XM I) : Ct G GAM mX10_next (d + 3) 0 [.ref 94] I (Rv (fun v J => (∃ x, v = some (.int x)) ∧ TM I J)) := by
  have hc : Ct G GAM mX10_next (3 + d) 0 [.ref 94] I (fun o J => TM I J ∧ ∃ p ∈ ct_268.2.2.2.2.2.2, resM o p.1) := ct_topM (cm_268 okXM manOK) d I [.ref 94] hB hX ⟨rfl, trivial⟩ (fun e he => nomatch he) (by decide) (by decide)
  rw [Nat.add_comm] at hc
  exact ct_rvM hc (by decide) (by decide)
theorem mo_match (p0 p1 : Int32) (hB : BX I) (hX : XM I) : Ct G GAM mX10_match (d + 10) 0 [.ref 94, .int p0, .int p1] I (Rv (fun v J => (∃ x, v = some (.int x)) ∧ WQ I J)) := (lw_match G d I hB hX p0 p1).weak (fun _ _ h => h.w)
theorem mo_rests (p0 p1 p2 : Int32) (hB : BX I) (hX : XM I) : Ct G GAM mX10_rests (d + 9) 0 [.ref 94, .int p0, .int p1, .int p2] I (Rv (fun v J => (∃ x, v = some (.int x)) ∧ WQ I J)) := by
  have hc : Ct G GAM mX10_rests (9 + d) 0 [.ref 94, .int p0, .int p1, .int p2] I (fun o J => WQ I J ∧ ∃ p ∈ ct_278.2.2.2.2.2.2, resM o p.1) := ct_top (cm_278 okXM manOK) d I [.ref 94, .int p0, .int p1, .int p2] hB hX ⟨rfl, inIv_F _, inIv_F _, inIv_F _, trivial⟩ (fun e he => nomatch he) (by decide) (by decide)
  rw [Nat.add_comm] at hc
  exact ct_rv hc (by decide) (by decide)
theorem mo_sells (p0 : Int32) (hB : BX I) (hX : XM I) : Ct G GAM mX10_sells (d + 5) 0 [.ref 94, .int p0] I (Rv (fun v J => (∃ x, v = some (.int x)) ∧ WQ I J)) := by
  have hc : Ct G GAM mX10_sells (5 + d) 0 [.ref 94, .int p0] I (fun o J => WQ I J ∧ ∃ p ∈ ct_280.2.2.2.2.2.2, resM o p.1) := ct_top (cm_280 okXM manOK) d I [.ref 94, .int p0] hB hX ⟨rfl, inIv_F _, trivial⟩ (fun e he => nomatch he) (by decide) (by decide)
  rw [Nat.add_comm] at hc
  exact ct_rv hc (by decide) (by decide)
theorem mo_dearest (hB : BX I) (hX : XM I) : Ct G GAM mX10_dearest (d + 5) 0 [.ref 94] I (Rv (fun v J => (∃ x, v = some (.int x)) ∧ WQ I J)) := by
  have hc : Ct G GAM mX10_dearest (5 + d) 0 [.ref 94] I (fun o J => WQ I J ∧ ∃ p ∈ ct_282.2.2.2.2.2.2, resM o p.1) := ct_top (cm_282 okXM manOK) d I [.ref 94] hB hX ⟨rfl, trivial⟩ (fun e he => nomatch he) (by decide) (by decide)
  rw [Nat.add_comm] at hc
  exact ct_rv hc (by decide) (by decide)
theorem mo_unlucky (hB : BX I) (hX : XM I) : Ct G GAM mX10_unlucky (d + 3) 0 [.ref 94] I (Rv (fun v J => (∃ x, v = some (.int x)) ∧ WQ I J)) := by
  have hc : Ct G GAM mX10_unlucky (3 + d) 0 [.ref 94] I (fun o J => WQ I J ∧ ∃ p ∈ ct_283.2.2.2.2.2.2, resM o p.1) := ct_top (cm_283 okXM manOK) d I [.ref 94] hB hX ⟨rfl, trivial⟩ (fun e he => nomatch he) (by decide) (by decide)
  rw [Nat.add_comm] at hc
  exact ct_rv hc (by decide) (by decide)
theorem mo_luckiest (p0 : Int32) (hB : BX I) (hX : XM I) : Ct G GAM mX10_luckiest (d + 2) 0 [.ref 94, .int p0] I (Rv (fun v J => (∃ x, v = some (.int x)) ∧ WQ I J)) := by
  have hc : Ct G GAM mX10_luckiest (2 + d) 0 [.ref 94, .int p0] I (fun o J => WQ I J ∧ ∃ p ∈ ct_284.2.2.2.2.2.2, resM o p.1) := ct_top (cm_284 okXM manOK) d I [.ref 94, .int p0] hB hX ⟨rfl, inIv_F _, trivial⟩ (fun e he => nomatch he) (by decide) (by decide)
  rw [Nat.add_comm] at hc
  exact ct_rv hc (by decide) (by decide)
theorem mo_ring (p0 : Int32) (hB : BX I) (hX : XM I) : Ct G GAM mX10_ring (d + 4) 0 [.ref 94, .int p0] I (Rv (fun v J => (∃ x, v = some (.int x)) ∧ WQ I J)) := by
  have hc : Ct G GAM mX10_ring (4 + d) 0 [.ref 94, .int p0] I (fun o J => WQ I J ∧ ∃ p ∈ ct_286.2.2.2.2.2.2, resM o p.1) := ct_top (cm_286 okXM manOK) d I [.ref 94, .int p0] hB hX ⟨rfl, inIv_F _, trivial⟩ (fun e he => nomatch he) (by decide) (by decide)
  rw [Nat.add_comm] at hc
  exact ct_rv hc (by decide) (by decide)
theorem mo_runs (p0 p1 : Int32) (hB : BX I) (hX : XM I) : Ct G GAM mX10_runs (d + 9) 0 [.ref 94, .int p0, .int p1] I (Rv (fun v J => (∃ x, v = some (.int x)) ∧ WQ I J)) := by
  have hc : Ct G GAM mX10_runs (9 + d) 0 [.ref 94, .int p0, .int p1] I (fun o J => WQ I J ∧ ∃ p ∈ ct_288.2.2.2.2.2.2, resM o p.1) := ct_top (cm_288 okXM manOK) d I [.ref 94, .int p0, .int p1] hB hX ⟨rfl, inIv_F _, inIv_F _, trivial⟩ (fun e he => nomatch he) (by decide) (by decide)
  rw [Nat.add_comm] at hc
  exact ct_rv hc (by decide) (by decide)
theorem mo_spent (p0 : Int32) (hB : BX I) (hX : XM I) : Ct G GAM mX10_spent (d + 9) 0 [.ref 94, .int p0] I (Rv (fun v J => (∃ x, v = some (.int x)) ∧ WQ I J)) := by
  have hc : Ct G GAM mX10_spent (9 + d) 0 [.ref 94, .int p0] I (fun o J => WQ I J ∧ ∃ p ∈ ct_295.2.2.2.2.2.2, resM o p.1) := ct_top (cm_295 okXM manOK) d I [.ref 94, .int p0] hB hX ⟨rfl, inIv_F _, trivial⟩ (fun e he => nomatch he) (by decide) (by decide)
  rw [Nat.add_comm] at hc
  exact ct_rv hc (by decide) (by decide)
theorem mo_oldest (hB : BX I) (hX : XM I) : Ct G GAM mX10_oldest (d + 2) 0 [.ref 94] I (Rv (fun v J => (∃ x, v = some (.int x)) ∧ WQ I J)) := by
  have hc : Ct G GAM mX10_oldest (2 + d) 0 [.ref 94] I (fun o J => WQ I J ∧ ∃ p ∈ ct_296.2.2.2.2.2.2, resM o p.1) := ct_top (cm_296 okXM manOK) d I [.ref 94] hB hX ⟨rfl, trivial⟩ (fun e he => nomatch he) (by decide) (by decide)
  rw [Nat.add_comm] at hc
  exact ct_rv hc (by decide) (by decide)
theorem mo_stuck (hB : BX I) (hX : XM I) : Ct G GAM mX10_stuck (d + 3) 0 [.ref 94] I (Rv (fun v J => (∃ x, v = some (.int x)) ∧ WQ I J)) := by
  have hc : Ct G GAM mX10_stuck (3 + d) 0 [.ref 94] I (fun o J => WQ I J ∧ ∃ p ∈ ct_298.2.2.2.2.2.2, resM o p.1) := ct_top (cm_298 okXM manOK) d I [.ref 94] hB hX ⟨rfl, trivial⟩ (fun e he => nomatch he) (by decide) (by decide)
  rw [Nat.add_comm] at hc
  exact ct_rv hc (by decide) (by decide)
theorem mo_pawned (hB : BX I) (hX : XM I) : Ct G GAM mX10_pawned (d + 3) 0 [.ref 94] I (Rv (fun v J => (∃ x, v = some (.int x)) ∧ WQ I J)) := by
  have hc : Ct G GAM mX10_pawned (3 + d) 0 [.ref 94] I (fun o J => WQ I J ∧ ∃ p ∈ ct_300.2.2.2.2.2.2, resM o p.1) := ct_top (cm_300 okXM manOK) d I [.ref 94] hB hX ⟨rfl, trivial⟩ (fun e he => nomatch he) (by decide) (by decide)
  rw [Nat.add_comm] at hc
  exact ct_rv hc (by decide) (by decide)
theorem mo_blue (hB : BX I) (hX : XM I) : Ct G GAM mX10_blue (d + 3) 0 [.ref 94] I (Rv (fun v J => (∃ x, v = some (.int x)) ∧ WQ I J)) := by
  have hc : Ct G GAM mX10_blue (3 + d) 0 [.ref 94] I (fun o J => WQ I J ∧ ∃ p ∈ ct_302.2.2.2.2.2.2, resM o p.1) := ct_top (cm_302 okXM manOK) d I [.ref 94] hB hX ⟨rfl, trivial⟩ (fun e he => nomatch he) (by decide) (by decide)
  rw [Nat.add_comm] at hc
  exact ct_rv hc (by decide) (by decide)
theorem mo_alike (hB : BX I) (hX : XM I) : Ct G GAM mX10_alike (d + 3) 0 [.ref 94] I (Rv (fun v J => (∃ x, v = some (.int x)) ∧ WQ I J)) := by
  have hc : Ct G GAM mX10_alike (3 + d) 0 [.ref 94] I (fun o J => WQ I J ∧ ∃ p ∈ ct_305.2.2.2.2.2.2, resM o p.1) := ct_top (cm_305 okXM manOK) d I [.ref 94] hB hX ⟨rfl, trivial⟩ (fun e he => nomatch he) (by decide) (by decide)
  rw [Nat.add_comm] at hc
  exact ct_rv hc (by decide) (by decide)
theorem mo_share (p0 p1 : Int32) (hB : BX I) (hX : XM I) : Ct G GAM mX10_share (d + 2) 0 [.ref 94, .int p0, .int p1] I (Rv (fun v J => (∃ x, v = some (.int x)) ∧ WQ I J)) := by
  have hc : Ct G GAM mX10_share (2 + d) 0 [.ref 94, .int p0, .int p1] I (fun o J => WQ I J ∧ ∃ p ∈ ct_306.2.2.2.2.2.2, resM o p.1) := ct_top (cm_306 okXM manOK) d I [.ref 94, .int p0, .int p1] hB hX ⟨rfl, inIv_F _, inIv_F _, trivial⟩ (fun e he => nomatch he) (by decide) (by decide)
  rw [Nat.add_comm] at hc
  exact ct_rv hc (by decide) (by decide)
theorem mo_odds (hB : BX I) (hX : XM I) : Ct G GAM mX10_odds (d + 5) 0 [.ref 94] I (Rv (fun v J => (∃ x, v = some (.int x)) ∧ WQ I J)) := by
  have hc : Ct G GAM mX10_odds (5 + d) 0 [.ref 94] I (fun o J => WQ I J ∧ ∃ p ∈ ct_309.2.2.2.2.2.2, resM o p.1) := ct_top (cm_309 okXM manOK) d I [.ref 94] hB hX ⟨rfl, trivial⟩ (fun e he => nomatch he) (by decide) (by decide)
  rw [Nat.add_comm] at hc
  exact ct_rv hc (by decide) (by decide)
theorem mo_trial (p0 p1 : Int32) (hz1 : inIv (0, 1) p1) (hB : BX I) (hX : XM I) : Ct G GAM mX10_trial (d + 10) 0 [.ref 94, .int p0, .int p1] I (Rv (fun v J => (∃ x, v = some (.int x)) ∧ WQ I J)) := by
  have hc : Ct G GAM mX10_trial (10 + d) 0 [.ref 94, .int p0, .int p1] I (fun o J => WQ I J ∧ ∃ p ∈ ct_312.2.2.2.2.2.2, resM o p.1) := ct_top (cm_312 okXM manOK) d I [.ref 94, .int p0, .int p1] hB hX ⟨rfl, inIv_F _, hz1, trivial⟩ (fun e he => nomatch he) (by decide) (by decide)
  rw [Nat.add_comm] at hc
  exact ct_rv hc (by decide) (by decide)
theorem mo_span (p0 p1 : Int32) (hz1 : inIv (0, 1) p1) (hB : BX I) (hX : XM I) : Ct G GAM mX10_span (d + 10) 0 [.ref 94, .int p0, .int p1] I (Rv (fun v J => (∃ x, v = some (.int x)) ∧ WQ I J)) := by
  have hc : Ct G GAM mX10_span (10 + d) 0 [.ref 94, .int p0, .int p1] I (fun o J => WQ I J ∧ ∃ p ∈ ct_313.2.2.2.2.2.2, resM o p.1) := ct_top (cm_313 okXM manOK) d I [.ref 94, .int p0, .int p1] hB hX ⟨rfl, inIv_F _, hz1, trivial⟩ (fun e he => nomatch he) (by decide) (by decide)
  rw [Nat.add_comm] at hc
  exact ct_rv hc (by decide) (by decide)
theorem mo_led (p0 p1 : Int32) (hz1 : inIv (0, 1) p1) (hB : BX I) (hX : XM I) : Ct G GAM mX10_led (d + 2) 0 [.ref 94, .int p0, .int p1] I (Rv (fun v J => (∃ x, v = some (.int x)) ∧ WQ I J)) := by
  have hc : Ct G GAM mX10_led (2 + d) 0 [.ref 94, .int p0, .int p1] I (fun o J => WQ I J ∧ ∃ p ∈ ct_314.2.2.2.2.2.2, resM o p.1) := ct_top (cm_314 okXM manOK) d I [.ref 94, .int p0, .int p1] hB hX ⟨rfl, inIv_F _, hz1, trivial⟩ (fun e he => nomatch he) (by decide) (by decide)
  rw [Nat.add_comm] at hc
  exact ct_rv hc (by decide) (by decide)
theorem mo_log (p0 p1 : Int32) (hB : BX I) (hX : XM I) : Ct G GAM mX10_log (d + 1) 0 [.ref 94, .int p0, .int p1] I (Rv (fun v J => (∃ x, v = some (.int x)) ∧ WQ I J)) := by
  have hc : Ct G GAM mX10_log (1 + d) 0 [.ref 94, .int p0, .int p1] I (fun o J => WQ I J ∧ ∃ p ∈ ct_315.2.2.2.2.2.2, resM o p.1) := ct_top (cm_315 okXM manOK) d I [.ref 94, .int p0, .int p1] hB hX ⟨rfl, inIv_F _, inIv_F _, trivial⟩ (fun e he => nomatch he) (by decide) (by decide)
  rw [Nat.add_comm] at hc
  exact ct_rv hc (by decide) (by decide)
theorem mo_seed (p0 : Int32) (hB : BX I) (hX : XM I) : Ct G GAM mX10_seed (d + 0) 0 [.ref 94, .int p0] I (Rv (fun v J => (∃ x, v = some (.int x)) ∧ WQ I J)) := by
  have hc : Ct G GAM mX10_seed (0 + d) 0 [.ref 94, .int p0] I (fun o J => WQ I J ∧ ∃ p ∈ ct_316.2.2.2.2.2.2, resM o p.1) := ct_top (cm_316 okXM manOK) d I [.ref 94, .int p0] hB hX ⟨rfl, inIv_F _, trivial⟩ (fun e he => nomatch he) (by decide) (by decide)
  rw [Nat.add_comm] at hc
  exact ct_rv hc (by decide) (by decide)
theorem mo_undo (hB : BX I) (hX : XM I) : Ct G GAM mX10_undo d 0 [.ref 94] I (Rv (fun v J => (∃ x, v = some (.int x)) ∧ WQ I J)) := (lw_undo hB hX).weak (fun o J h => by
  obtain ⟨⟨x, rfl⟩, a, b, c, z, e⟩ := h
  exact ⟨⟨x, rfl⟩, a, b, by rw [e 1 (by decide)], z, (LQk e).1, (LQk e).2⟩)
theorem mo_count (p0 : Int32) (hB : BX I) (hX : XM I) : Ct G GAM mX10_count (d + 4) 0 [.ref 94, .int p0] I (Rv (fun v J => (∃ x, v = some (.int x)) ∧ WQ I J)) := by
  have hc : Ct G GAM mX10_count (4 + d) 0 [.ref 94, .int p0] I (fun o J => WQ I J ∧ ∃ p ∈ ct_317.2.2.2.2.2.2, resM o p.1) := ct_top (cm_317 okXM manOK) d I [.ref 94, .int p0] hB hX ⟨rfl, inIv_F _, trivial⟩ (fun e he => nomatch he) (by decide) (by decide)
  rw [Nat.add_comm] at hc
  exact ct_rv hc (by decide) (by decide)
theorem mo_image (hB : BX I) (hX : XM I) : Ct G GAM mX10_image d 0 [.ref 94] I (Rv (fun v J => v = none ∧ WQ I J)) := (lw_image hB hX).weak (fun o J h => by
  obtain ⟨rfl, a, b, c, z, e⟩ := h
  exact ⟨rfl, a, b, by rw [e 1 (by decide)], z, (LQk e).1, (LQk e).2⟩)
theorem mo_back (hB : BX I) (hX : XM I) : Ct G GAM mX10_back d 0 [.ref 94] I (Rv (fun v J => (∃ x, v = some (.int x)) ∧ WQ I J)) := (lw_back hB hX).weak (fun o J h => by
  obtain ⟨rfl, a, b, c, z, e⟩ := h
  exact ⟨⟨_, rfl⟩, a, b, by rw [e 1 (by decide)], z, (LQk e).1, (LQk e).2⟩)
end Tops
