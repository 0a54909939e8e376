theorem dX10_after_0 : decode cX10_after 0 = .ok (.aload_n 0, 1) := by decide +kernel
theorem dX10_after_1 : decode cX10_after 1 = .ok (.invokevirtual 114, 3) := by decide +kernel
theorem dX10_after_4 : decode cX10_after 4 = .ok (.aload_n 0, 1) := by decide +kernel
theorem dX10_after_5 : decode cX10_after 5 = .ok (.aload_n 1, 1) := by decide +kernel
theorem dX10_after_6 : decode cX10_after 6 = .ok (.invokevirtual 117, 3) := by decide +kernel
theorem dX10_after_9 : decode cX10_after 9 = .ok (.ifCond .eq 12, 3) := by decide +kernel
theorem dX10_after_21 : decode cX10_after 21 = .ok (.iconst (-1), 1) := by decide +kernel
theorem dX10_after_22 : decode cX10_after 22 = .ok (.ireturn, 1) := by decide +kernel
theorem dX10_after_12 : decode cX10_after 12 = .ok (.aload_n 0, 1) := by decide +kernel
theorem dX10_after_13 : decode cX10_after 13 = .ok (.iload_n 2, 1) := by decide +kernel
theorem dX10_after_14 : decode cX10_after 14 = .ok (.iload_n 3, 1) := by decide +kernel
theorem dX10_after_15 : decode cX10_after 15 = .ok (.invokevirtual 121, 3) := by decide +kernel
theorem dX10_after_18 : decode cX10_after 18 = .ok (.goto 4, 3) := by decide +kernel
theorem dX10_readNumber_0 : decode cX10_readNumber 0 = .ok (.aload_n 0, 1) := by decide +kernel
theorem dX10_readNumber_1 : decode cX10_readNumber 1 = .ok (.iload_n 2, 1) := by decide +kernel
theorem dX10_readNumber_2 : decode cX10_readNumber 2 = .ok (.iload_n 3, 1) := by decide +kernel
theorem dX10_readNumber_3 : decode cX10_readNumber 3 = .ok (.invokevirtual 121, 3) := by decide +kernel
theorem dX10_readNumber_6 : decode cX10_readNumber 6 = .ok (.istore 4, 2) := by decide +kernel
theorem dX10_readNumber_8 : decode cX10_readNumber 8 = .ok (.aload_n 0, 1) := by decide +kernel
theorem dX10_readNumber_9 : decode cX10_readNumber 9 = .ok (.getfield 13, 3) := by decide +kernel
theorem dX10_readNumber_12 : decode cX10_readNumber 12 = .ok (.iload_n 1, 1) := by decide +kernel
theorem dX10_readNumber_13 : decode cX10_readNumber 13 = .ok (.iload 4, 2) := by decide +kernel
theorem dX10_readNumber_15 : decode cX10_readNumber 15 = .ok (.ifCond .ge 12, 3) := by decide +kernel
theorem dX10_readNumber_18 : decode cX10_readNumber 18 = .ok (.aload_n 0, 1) := by decide +kernel
theorem dX10_readNumber_19 : decode cX10_readNumber 19 = .ok (.getfield 13, 3) := by decide +kernel
theorem dX10_readNumber_22 : decode cX10_readNumber 22 = .ok (.iload_n 1, 1) := by decide +kernel
theorem dX10_readNumber_23 : decode cX10_readNumber 23 = .ok (.iaload, 1) := by decide +kernel
theorem dX10_readNumber_24 : decode cX10_readNumber 24 = .ok (.goto 5, 3) := by decide +kernel
theorem dX10_readNumber_29 : decode cX10_readNumber 29 = .ok (.iastore, 1) := by decide +kernel
theorem dX10_readNumber_30 : decode cX10_readNumber 30 = .ok (.iload 4, 2) := by decide +kernel
theorem dX10_readNumber_32 : decode cX10_readNumber 32 = .ok (.ifCond .lt 7, 3) := by decide +kernel
theorem dX10_readNumber_39 : decode cX10_readNumber 39 = .ok (.iconst 0, 1) := by decide +kernel
theorem dX10_readNumber_40 : decode cX10_readNumber 40 = .ok (.ireturn, 1) := by decide +kernel
theorem dX10_readNumber_27 : decode cX10_readNumber 27 = .ok (.iload 4, 2) := by decide +kernel
theorem dX10_readNumber_35 : decode cX10_readNumber 35 = .ok (.iconst 1, 1) := by decide +kernel
theorem dX10_readNumber_36 : decode cX10_readNumber 36 = .ok (.goto 4, 3) := by decide +kernel
theorem dX10_readLuck_2 : decode cX10_readLuck 2 = .ok (.iload_n 2, 1) := by decide +kernel
theorem dX10_readLuck_3 : decode cX10_readLuck 3 = .ok (.iconst 4, 1) := by decide +kernel
theorem dX10_readLuck_4 : decode cX10_readLuck 4 = .ok (.if_icmp .ge 24, 3) := by decide +kernel
theorem dX10_readLuck_28 : decode cX10_readLuck 28 = .ok (.iconst 1, 1) := by decide +kernel
theorem dX10_readLuck_29 : decode cX10_readLuck 29 = .ok (.ireturn, 1) := by decide +kernel
theorem dX10_readLuck_7 : decode cX10_readLuck 7 = .ok (.aload_n 0, 1) := by decide +kernel
theorem dX10_readLuck_8 : decode cX10_readLuck 8 = .ok (.iload_n 1, 1) := by decide +kernel
theorem dX10_readLuck_9 : decode cX10_readLuck 9 = .ok (.iload_n 2, 1) := by decide +kernel
theorem dX10_readLuck_10 : decode cX10_readLuck 10 = .ok (.iadd, 1) := by decide +kernel
theorem dX10_readLuck_11 : decode cX10_readLuck 11 = .ok (.iconst 0, 1) := by decide +kernel
theorem dX10_readLuck_12 : decode cX10_readLuck 12 = .ok (.bipush 99, 2) := by decide +kernel
theorem dX10_readLuck_14 : decode cX10_readLuck 14 = .ok (.invokevirtual 124, 3) := by decide +kernel
theorem dX10_readLuck_17 : decode cX10_readLuck 17 = .ok (.ifCond .ne 5, 3) := by decide +kernel
theorem dX10_readLuck_20 : decode cX10_readLuck 20 = .ok (.iconst 0, 1) := by decide +kernel
theorem dX10_readLuck_21 : decode cX10_readLuck 21 = .ok (.ireturn, 1) := by decide +kernel
theorem dX10_readLuck_22 : decode cX10_readLuck 22 = .ok (.iinc 2 1, 3) := by decide +kernel
theorem dX10_readLuck_25 : decode cX10_readLuck 25 = .ok (.goto (-23), 3) := by decide +kernel
theorem dX10_readLuck_0 : decode cX10_readLuck 0 = .ok (.iconst 0, 1) := by decide +kernel
theorem dX10_readLuck_1 : decode cX10_readLuck 1 = .ok (.istore_n 2, 1) := by decide +kernel
/-! the reference's reader of the coast, told by the text -/
def WB (V : Nat → Int32) : Prop := ∀ j, j < 377 → inIv (wbx j) (V j)
/-- the world in the reading: w women, t things, which are blue; the rest as it was where it matters -/
def WV (V0 : Nat → Int32) (w t : Nat) (b : Nat → Int32) (V : Nat → Int32) : Prop := WB V ∧ V 0 = nI w ∧ V 1 = nI t ∧ V 2 = V0 2 ∧ V 3 = V0 3 ∧ (∀ j, 377 ≤ j → V j = V0 j) ∧ (∀ k, k < t → V (73 + 9 * k) = b k) ∧ w ≤ 8 ∧ t ≤ 8
theorem WV.up {V0 V : Nat → Int32} {w t j : Nat} {b : Nat → Int32} {x : Int32} (h : WV V0 w t b V) (h1 : 4 ≤ j) (h2 : j < 377) (h3 : ∀ k, k < t → 73 + 9 * k ≠ j) (h4 : inIv (wbx j) x) : WV V0 w t b (upd V j x) := by
  obtain ⟨a1, a2, a3, a4, a5, a6, a7, a8, a9⟩ := h
  refine ⟨fun i hi => ?_, by rw [upd_ne _ _ (by omega)]; exact a2, by rw [upd_ne _ _ (by omega)]; exact a3, by rw [upd_ne _ _ (by omega)]; exact a4, by rw [upd_ne _ _ (by omega)]; exact a5, fun i hi => by rw [upd_ne _ _ (by omega)]; exact a6 i hi, fun k hk => by rw [upd_ne _ _ (h3 k hk)]; exact a7 k hk, a8, a9⟩
  by_cases z : i = j
  · subst z; rw [upd_at]; exact h4
  · rw [upd_ne _ _ z]; exact a1 i hi
theorem upd_self (V : Nat → Int32) (j : Nat) : upd V j (V j) = V := by
  funext i
  simp only [upd]
  split
  · rename_i z; rw [z]
  · rfl
theorem wbx_L {j : Nat} (h : (9 ≤ j ∧ j < 65 ∧ (j - 9) % 7 < 4) ∨ (65 ≤ j ∧ j < 137 ∧ (j - 65) % 9 < 4)) : wbx j = (0, 99) := by
  unfold wbx
  rw [if_neg (by omega), if_neg (by omega), if_neg (by omega), if_neg (by omega)]
  rcases h with h | h
  · rw [if_pos h.2.1, if_pos h.2.2]
  · rw [if_neg (by omega), if_pos h.2.1, if_pos h.2.2]
theorem wbx_F {j : Nat} (h : (4 ≤ j ∧ j < 7) ∨ (9 ≤ j ∧ j < 65 ∧ 4 ≤ (j - 9) % 7) ∨ (65 ≤ j ∧ j < 137 ∧ 6 ≤ (j - 65) % 9)) : wbx j = ivF := by
  unfold wbx
  rcases h with h | h | h
  · rw [if_neg (by omega), if_neg (by omega), if_neg (by omega), if_pos (by omega)]
  · rw [if_neg (by omega), if_neg (by omega), if_neg (by omega), if_neg (by omega), if_pos h.2.1, if_neg (by omega)]
  · rw [if_neg (by omega), if_neg (by omega), if_neg (by omega), if_neg (by omega), if_neg (by omega), if_pos h.2.1, if_neg (by omega), if_neg (by omega), if_neg (by omega)]
theorem wbx_O {k : Nat} (h : k < 8) : wbx (65 + 9 * k + 4) = (0, 7) ∧ wbx (65 + 9 * k + 5) = (-1, 7) := by
  unfold wbx
  constructor
  · rw [if_neg (by omega), if_neg (by omega), if_neg (by omega), if_neg (by omega), if_neg (by omega), if_pos (by omega), if_neg (by omega), if_pos (by omega)]
  · rw [if_neg (by omega), if_neg (by omega), if_neg (by omega), if_neg (by omega), if_neg (by omega), if_pos (by omega), if_neg (by omega), if_neg (by omega), if_pos (by omega)]
theorem iv99 {x : Int32} (h1 : nI 0 ≤ x) (h2 : x ≤ nI 99) : inIv (0, 99) x := ⟨Int32.le_iff_toInt_le.mp h1, Int32.le_iff_toInt_le.mp h2⟩
theorem wm1 {w : Nat} (hw : w ≤ 8) : (nI w - nI 1).toInt = (w : Int) - 1 := by
  have : ∀ w, w < 9 → (nI w - nI 1).toInt = (w : Int) - 1 := by decide
  exact this w (by omega)
theorem ivH {w : Nat} {x : Int32} (hw : w ≤ 8) (h1 : nI 0 ≤ x) (h2 : x ≤ nI w - nI 1) : inIv (0, 7) x := by
  have a := Int32.le_iff_toInt_le.mp h1
  have b := Int32.le_iff_toInt_le.mp h2
  rw [wm1 hw] at b
  exact ⟨a, by show _ ≤ (7 : Int); omega⟩
theorem ivH2 {x : Int32} (h : inIv (0, 7) x) : inIv (-1, 7) x := ⟨by have : (0 : Int) ≤ x.toInt := h.1; show (-1 : Int) ≤ _; omega, h.2⟩
/-- what a reader leaves -/
def RP (c : Nat → Nat) (e : Nat) (V0 : Nat → Int32) (w t : Nat) (b : Nat → Int32) (I : Hi) (q s : Nat) (o : Go) (v : Option Value) (J : Hi) : Prop := ∃ (p' b' : Nat) (V' : Nat → Int32), J = PS I p' b' q s V' ∧ p' ≤ e ∧ b' ≤ e ∧ WV V0 w t b V' ∧ ((v = some (.int (nI 0)) ∧ o = .inl b') ∨ (v = some (.int (nI 1)) ∧ o = .inr (bl c e p')))
section Rco
variable (G : Gx) (d : Nat) {c : Nat → Nat} {e : Nat}
theorem cx_numI (I : Hi) (hi : Int32) (p : Nat) (hT : TY I c e) (hp : p ≤ e) (h10 : I 94 10 = nI p) : Ct G GAM mX10_number (d + 2) 0 [.ref 94, .int (nI 0), .int hi] I (Rv (fun v J => ∃ p' b', p' ≤ e ∧ b' ≤ e ∧ J = PB I p' b' ∧ b' = bl c e p ∧ ((v = some (.int (-1)) ∧ gNum c e hi b' = .inl b') ∨ (∃ x, v = some (.int x) ∧ nI 0 ≤ x ∧ x ≤ hi ∧ gNum c e hi b' = .inr (bl c e p'))))) := by
  have he := hT.1
  refine Ct.mk [some (.ref 94), some (.int (nI 0)), some (.int hi), none] ?_
  refine Rn.aload_n dX10_number_0 rfl rfl ?_
  refine Rn.callV (As := []) dX10_number_1 mv_X10_102 (by first | rfl | exact gC0 (by assumption) | exact gL0 (by assumption)) rfl rfl rfl (Nat.le_of_ble_eq_true rfl) (cx_blanks G d I p hT hp h10) (fun _ _ h => h) (fun v J h => ?_)
  obtain ⟨rfl, p1, q1, q2, rfl, q3⟩ := h
  refine Rn.iconst (v := (nI 0)) dX10_number_4 rfl ?_
  refine Rn.istore_n dX10_number_5 rfl (by decide) ?_
  refine lq_number G d I hT p1 _ _ (fun v hv => ?_) e 0 _ (by omega) (by omega) rfl (fun _ => rfl)
  have h1 : p1 ≤ dx c e p1 := rn_ge
  have h2 : dx c e p1 ≤ e := rn_le q2
  have hd : ∀ i, p1 ≤ i → i < dx c e p1 → 48 ≤ c i ∧ c i ≤ 57 := fun i a b => rn_all (e := e) (p := p1) a b
  have hlx : p1 < dx c e p1 → lx c e p1 = p1 := fun z => rn_out (fun _ y => by have := hd p1 (by omega) z; omega)
  refine Rn.aload_n dX10_number_65 rfl rfl ?_
  refine Rn.getI dX10_number_66 fd_X10_89_9 (by first | rfl | exact gC0 (by assumption) | exact gL0 (by assumption)) rfl ?_
  refine Rn.topI (nI (dx c e p1)) (by rfl) ?_
  refine Rn.aload_n dX10_number_69 rfl rfl ?_
  refine Rn.getI dX10_number_70 fd_X10_99_9 (by first | rfl | exact gC0 (by assumption) | exact gL0 (by assumption)) rfl ?_
  refine Rn.topI (nI p1) (by rfl) ?_
  refine Rn.icmp_eqN dX10_number_73 99 (fun h3 => ?_) (fun h3 => ?_)
  · refine Rn.iconst (v := (-1)) dX10_number_99 rfl ?_
    refine Rn.goto 104 dX10_number_100 (by decide) ?_
    exact Rn.iret dX10_number_104 rfl (⟨dx c e p1, p1, h2, q2, rfl, q3, Or.inl ⟨rfl, if_pos (Or.inl (tn_0 (by omega)))⟩⟩)
  · refine Rn.aload_n dX10_number_76 rfl rfl ?_
    refine Rn.getI dX10_number_77 fd_X10_89_9 (by first | rfl | exact gC0 (by assumption) | exact gL0 (by assumption)) rfl ?_
    refine Rn.topI (nI (dx c e p1)) (by rfl) ?_
    refine Rn.aload_n dX10_number_80 rfl rfl ?_
    refine Rn.getI dX10_number_81 fd_X10_99_9 (by first | rfl | exact gC0 (by assumption) | exact gL0 (by assumption)) rfl ?_
    refine Rn.topI (nI p1) (by rfl) ?_
    refine Rn.isub dX10_number_84 ?_
    refine Rn.topI (nI (dx c e p1 - p1)) (by exact pk_sub h1) ?_
    refine Rn.iconst (v := (nI 3)) dX10_number_85 rfl ?_
    refine Rn.icmp_gtN dX10_number_86 99 (fun h4 => ?_) (fun h4 => ?_)
    · have ht : tn c e p1 = -1 := by
        rw [tn, if_pos (hlx (by omega)), tnK, if_neg (by omega)]
      refine Rn.iconst (v := (-1)) dX10_number_99 rfl ?_
      refine Rn.goto 104 dX10_number_100 (by decide) ?_
      exact Rn.iret dX10_number_104 rfl (⟨dx c e p1, p1, h2, q2, rfl, q3, Or.inl ⟨rfl, if_pos (Or.inl ht)⟩⟩)
    · have hv := hv (by omega)
      have hb := nv_b (c := c) (q := p1) (k := dx c e p1 - p1) (fun i a b => hd i a (by omega)) (by omega)
      have ht : tn c e p1 = nI (nv c p1 (dx c e p1 - p1)) := by
        rw [tn, if_pos (hlx (by omega)), tnK, if_pos (by omega)]
      rw [← ht] at hv
      subst hv
      have h0 : ¬ tn c e p1 < nI 0 := by
        rw [ht]
        intro z
        have z := Int32.lt_iff_toInt_lt.mp z
        rw [nI_toInt (by omega), nI_toInt (by omega)] at z
        omega
      have hm : tn c e p1 ≠ -1 := by
        rw [ht]
        exact fun z => neg1_ne (by omega) z.symm
      refine Rn.iload_n dX10_number_89 rfl rfl ?_
      refine Rn.iload_n dX10_number_90 rfl rfl ?_
      refine Rn.icmp_lt (tgt := 99) dX10_number_91 (by decide) (fun h5 => ?_) (fun h5 => ?_)
      · exact absurd h5 h0
      · refine Rn.iload_n dX10_number_94 rfl rfl ?_
        refine Rn.iload_n dX10_number_95 rfl rfl ?_
        refine Rn.icmp_le (tgt := 103) dX10_number_96 (by decide) (fun h6 => ?_) (fun h6 => ?_)
        · refine Rn.iload_n dX10_number_103 rfl rfl ?_
          exact Rn.iret dX10_number_104 rfl (⟨dx c e p1, p1, h2, q2, rfl, q3, Or.inr ⟨tn c e p1, rfl, Int32.not_lt.mp h0, h6, (if_neg (fun z => z.elim hm (fun y => absurd y (Int32.not_lt.mpr h6)))).trans (by rw [nx_d (hlx (by omega)) (by omega)])⟩⟩)
        · refine Rn.iconst (v := (-1)) dX10_number_99 rfl ?_
          refine Rn.goto 104 dX10_number_100 (by decide) ?_
          exact Rn.iret dX10_number_104 rfl (⟨dx c e p1, p1, h2, q2, rfl, q3, Or.inl ⟨rfl, if_pos (Or.inr (Int32.not_le.mp h6))⟩⟩)
theorem cx_after (I : Hi) (i : Nat) (hi : Int32) (hi2 : i < zsN) (p : Nat) (hT : TY I c e) (hp : p ≤ e) (h10 : I 94 10 = nI p) : Ct G GAM mX10_after (d + 5) 0 [.ref 94, .ref (1000 + i), .int (nI 0), .int hi] I (Rv (fun v J => ∃ p' b', p' ≤ e ∧ b' ≤ e ∧ J = PB I p' b' ∧ ((v = some (.int (-1)) ∧ cReq c e (hz i) hi (bl c e p) = .inl b') ∨ (∃ x, v = some (.int x) ∧ nI 0 ≤ x ∧ x ≤ hi ∧ cReq c e (hz i) hi (bl c e p) = .inr (bl c e p'))))) := by
  have he := hT.1
  have hz2 : 2 ≤ zsLen.getD i 0 := (zsLen_b ⟨i, hi2⟩).1
  refine Ct.mk [some (.ref 94), some (.ref (1000 + i)), some (.int (nI 0)), some (.int hi)] ?_
  refine Rn.aload_n dX10_after_0 rfl rfl ?_
  refine Rn.callV (As := []) dX10_after_1 mv_X10_114 (by first | rfl | exact gC0 (by assumption) | exact gL0 (by assumption)) rfl rfl rfl (Nat.le_of_ble_eq_true rfl) (cx_letters G (d + 2) I p hT hp h10) (fun _ _ h => h) (fun v J h => ?_)
  obtain ⟨rfl, p1, b1, q1, q2, q3, rfl, hb1, rfl⟩ := h
  rw [← hb1]
  refine Rn.aload_n dX10_after_4 rfl rfl ?_
  refine Rn.aload_n dX10_after_5 rfl rfl ?_
  refine Rn.callV (As := [_]) dX10_after_6 mv_X10_117 (by first | rfl | exact gC0 (by assumption) | exact gL0 (by assumption)) rfl rfl rfl (Nat.le_of_ble_eq_true rfl) (cx_isWord G d _ i b1 hi2 hT.pb (by omega) (by rfl) (by rfl)) (fun _ _ h => h) (fun v J h => ?_)
  obtain ⟨rfl, ⟨h4, rfl⟩ | ⟨h4, rfl, h5⟩⟩ := h
  · refine Rn.if_eq (tgt := 21) dX10_after_9 (by decide) (fun _ => ?_) (fun h9 => absurd h9 (by decide))
    refine Rn.iconst (v := (-1)) dX10_after_21 rfl ?_
    exact Rn.iret dX10_after_22 rfl (⟨lx c e b1, b1, q3, by omega, rfl, Or.inl ⟨rfl, if_neg h4⟩⟩)
  · refine Rn.if_eq (tgt := 21) dX10_after_9 (by decide) (fun h9 => absurd h9 (by decide)) (fun _ => ?_)
    refine Rn.aload_n dX10_after_12 rfl rfl ?_
    refine Rn.iload_n dX10_after_13 rfl rfl ?_
    refine Rn.iload_n dX10_after_14 rfl rfl ?_
    refine Rn.callV (As := [_, _]) dX10_after_15 mv_X10_121 (by first | rfl | exact gC0 (by assumption) | exact gL0 (by assumption)) rfl rfl rfl (Nat.le_of_ble_eq_true rfl) (cx_numI G (d + 2) _ hi (lx c e b1) hT.pb q3 (by rfl)) (fun _ _ h => h) (fun v J h => ?_)
    obtain ⟨p2, b2, r1, r2, rfl, r3, hr⟩ := h
    have e3 : b2 = nx c e b1 := by rw [r3, nx_w (by omega)]
    have ho : cReq c e (hz i) hi b1 = gNum c e hi b2 := (if_pos h4).trans (by rw [e3])
    rw [ho]
    refine Rn.hpp _ (PB_PB _ _ _ _ _) ?_
    rcases hr with ⟨rfl, r4⟩ | ⟨x, rfl, r4, r5, r6⟩
    · refine Rn.goto 22 dX10_after_18 (by decide) ?_
      exact Rn.iret dX10_after_22 rfl (⟨p2, b2, r1, r2, rfl, Or.inl ⟨rfl, r4⟩⟩)
    · refine Rn.goto 22 dX10_after_18 (by decide) ?_
      exact Rn.iret dX10_after_22 rfl (⟨p2, b2, r1, r2, rfl, Or.inr ⟨x, rfl, r4, r5, r6⟩⟩)
theorem rk_num (I : Hi) (V0 : Nat → Int32) (w t : Nat) (b : Nat → Int32) (q s : Nat) (at' hi : Nat) (hh : hi < 1000) (h1 : 4 ≤ at') (h2 : at' < 377) (h3 : ∀ k, k < t → 73 + 9 * k ≠ at') (h4 : ∀ x, nI 0 ≤ x → x ≤ nI hi → inIv (wbx at') x) (p b0 : Nat) (V : Nat → Int32) (hT : TY I c e) (hp : p ≤ e) (hV : WV V0 w t b V) (q0 : Nat) (h0 : bl c e p = q0) : Ct G GAM mX10_readNumber (d + 3) 0 [.ref 94, .int (nI at'), .int (nI 0), .int (nI hi)] (PS I p b0 q s V) (Rv (RP c e V0 w t b I q s (gNum c e (nI hi) q0))) := by
  have he := hT.1
  refine Ct.mk [some (.ref 94), some (.int (nI at')), some (.int (nI 0)), some (.int (nI hi)), none] ?_
  refine Rn.aload_n dX10_readNumber_0 rfl rfl ?_
  refine Rn.iload_n dX10_readNumber_1 rfl rfl ?_
  refine Rn.iload_n dX10_readNumber_2 rfl rfl ?_
  refine Rn.callV (As := [_, _]) dX10_readNumber_3 mv_X10_121 (by first | rfl | exact gC0 (by assumption) | exact gL0 (by assumption)) rfl rfl rfl (Nat.le_of_ble_eq_true rfl) (cx_numI G d (PS I p b0 q s V) (nI hi) p hT.ps hp (by rfl)) (fun _ _ h => h) (fun v J h => ?_)
  obtain ⟨p2, b2, r1, r2, rfl, r3, hr⟩ := h
  rw [h0] at r3
  subst r3
  refine Rn.hpp _ (PS_PB _ _ _ _ _ _ _ _) ?_
  rcases hr with ⟨rfl, r4⟩ | ⟨x, rfl, r4, r5, r6⟩
  · refine Rn.istore dX10_readNumber_6 (by decide) ?_
    refine Rn.aload_n dX10_readNumber_8 rfl rfl ?_
    refine Rn.getR dX10_readNumber_9 fd_X10_13_9 (by first | rfl | exact gC0 (by assumption) | exact gL0 (by assumption)) rfl ?_
    refine Rn.iload_n dX10_readNumber_12 rfl rfl ?_
    refine Rn.iload dX10_readNumber_13 rfl ?_
    refine Rn.if_ge (tgt := 27) dX10_readNumber_15 (by decide) (fun h9 => absurd h9 (by decide)) (fun _ => ?_)
    refine Rn.aload_n dX10_readNumber_18 rfl rfl ?_
    refine Rn.getR dX10_readNumber_19 fd_X10_13_9 (by first | rfl | exact gC0 (by assumption) | exact gL0 (by assumption)) rfl ?_
    refine Rn.iload_n dX10_readNumber_22 rfl rfl ?_
    refine Rn.topI (nI (at')) (by first | rfl | (simp only [nI_add, pk_mul, nI_1]; done) | (simp only [nI_add, pk_mul, nI_1]; congr 1; omega)) ?_
    refine Rn.ialdN dX10_readNumber_23 (by first | rfl | exact gC1 (by assumption) | exact gC2 (by assumption) | exact gC3 (by assumption) | exact gL1 (by assumption) | exact gL2 (by assumption) | exact gL3 (by assumption) | exact gL4 (by assumption) | exact gL5 (by assumption) | exact gL6 (by assumption)) ?_
    refine Rn.topI (V at') (by rfl) ?_
    refine Rn.goto 29 dX10_readNumber_24 (by decide) ?_
    refine Rn.secI (nI (at')) (by first | rfl | (simp only [nI_add, pk_mul, nI_1]; done) | (simp only [nI_add, pk_mul, nI_1]; congr 1; omega)) ?_
    refine Rn.iastN dX10_readNumber_29 (by first | rfl | exact gC1 (by assumption) | exact gC2 (by assumption) | exact gC3 (by assumption) | exact gL1 (by assumption) | exact gL2 (by assumption) | exact gL3 (by assumption) | exact gL4 (by assumption) | exact gL5 (by assumption) | exact gL6 (by assumption)) ?_
    refine Rn.hpp _ ((PS_95 _ _ _ _ _ _ _ _).trans (by rw [upd_self])) ?_
    refine Rn.iload dX10_readNumber_30 rfl ?_
    refine Rn.if_lt (tgt := 39) dX10_readNumber_32 (by decide) (fun _ => ?_) (fun h9 => absurd h9 (by decide))
    refine Rn.iconst (v := (nI 0)) dX10_readNumber_39 rfl ?_
    exact Rn.zret dX10_readNumber_40 rfl rfl (⟨p2, b2, V, rfl, r1, r2, hV, Or.inl ⟨rfl, r4⟩⟩)
  · refine Rn.istore dX10_readNumber_6 (by decide) ?_
    refine Rn.aload_n dX10_readNumber_8 rfl rfl ?_
    refine Rn.getR dX10_readNumber_9 fd_X10_13_9 (by first | rfl | exact gC0 (by assumption) | exact gL0 (by assumption)) rfl ?_
    refine Rn.iload_n dX10_readNumber_12 rfl rfl ?_
    refine Rn.iload dX10_readNumber_13 rfl ?_
    refine Rn.if_ge (tgt := 27) dX10_readNumber_15 (by decide) (fun _ => ?_) (fun h9 => by exfalso; exact h9 r4)
    refine Rn.iload dX10_readNumber_27 rfl ?_
    refine Rn.secI (nI (at')) (by first | rfl | (simp only [nI_add, pk_mul, nI_1]; done) | (simp only [nI_add, pk_mul, nI_1]; congr 1; omega)) ?_
    refine Rn.iastN dX10_readNumber_29 (by first | rfl | exact gC1 (by assumption) | exact gC2 (by assumption) | exact gC3 (by assumption) | exact gL1 (by assumption) | exact gL2 (by assumption) | exact gL3 (by assumption) | exact gL4 (by assumption) | exact gL5 (by assumption) | exact gL6 (by assumption)) ?_
    refine Rn.hpp _ (PS_95 _ _ _ _ _ _ _ _) ?_
    refine Rn.iload dX10_readNumber_30 rfl ?_
    refine Rn.if_lt (tgt := 39) dX10_readNumber_32 (by decide) (fun h9 => by exfalso; exact absurd h9 (Int32.not_lt.mpr r4)) (fun _ => ?_)
    refine Rn.iconst (v := (nI 1)) dX10_readNumber_35 rfl ?_
    refine Rn.goto 40 dX10_readNumber_36 (by decide) ?_
    exact Rn.zret dX10_readNumber_40 rfl rfl (⟨p2, b2, upd V at' x, rfl, r1, r2, hV.up h1 h2 h3 (h4 x r4 r5), Or.inr ⟨rfl, r6⟩⟩)
theorem lp_luck (I : Hi) (V0 : Nat → Int32) (w t : Nat) (b : Nat → Int32) (q s : Nat) (a0 : Nat) (h1 : 4 ≤ a0) (h2 : a0 + 4 ≤ 377) (h3 : ∀ k i, i < 4 → k < t → 73 + 9 * k ≠ a0 + i) (h4 : ∀ i, i < 4 → wbx (a0 + i) = (0, 99)) (hT : TY I c e) (o : Go) : ∀ (m i p b0 : Nat) (V : Nat → Int32) (q0 : Nat), i + m = 4 → p ≤ e → b0 ≤ e → WV V0 w t b V → bl c e p = q0 → cN c e m q0 = o → Rn G GAM mX10_readLuck (kM G GAM (Rv (RP c e V0 w t b I q s o))) (d + 4) 0 2 [some (.ref 94), some (.int (nI a0)), some (.int (nI i))] [] (PS I p b0 q s V) := by
  have he := hT.1
  intro m
  induction m with
  | zero =>
    intro i p b0 V q0 hi hp hb hV h0 ho
    refine Rn.iload_n dX10_readLuck_2 rfl rfl ?_
    refine Rn.iconst (v := (nI 4)) dX10_readLuck_3 rfl ?_
    refine Rn.icmp_geN dX10_readLuck_4 28 (fun _ => ?_) (fun h9 => by exfalso; omega)
    refine Rn.iconst (v := (nI 1)) dX10_readLuck_28 rfl ?_
    exact Rn.zret dX10_readLuck_29 rfl rfl (⟨p, b0, V, rfl, hp, hb, hV, Or.inr ⟨rfl, ho.symm.trans (by rw [← h0]; rfl)⟩⟩)
  | succ m ih =>
    intro i p b0 V q0 hi hp hb hV h0 ho
    have ho : gB (gNum c e (nI 99) q0) (cN c e m) = o := ho
    refine Rn.iload_n dX10_readLuck_2 rfl rfl ?_
    refine Rn.iconst (v := (nI 4)) dX10_readLuck_3 rfl ?_
    refine Rn.icmp_geN dX10_readLuck_4 28 (fun h9 => by exfalso; omega) (fun _ => ?_)
    refine Rn.aload_n dX10_readLuck_7 rfl rfl ?_
    refine Rn.iload_n dX10_readLuck_8 rfl rfl ?_
    refine Rn.iload_n dX10_readLuck_9 rfl rfl ?_
    refine Rn.iadd dX10_readLuck_10 ?_
    refine Rn.topI (nI (a0 + i)) (by exact nI_add a0 i) ?_
    refine Rn.iconst (v := (nI 0)) dX10_readLuck_11 rfl ?_
    refine Rn.bipush (v := (nI 99)) dX10_readLuck_12 rfl ?_
    refine Rn.callV (As := [_, _, _]) dX10_readLuck_14 mv_X10_124 (by first | rfl | exact gC0 (by assumption) | exact gL0 (by assumption)) rfl rfl rfl (Nat.le_of_ble_eq_true rfl) (rk_num G d I V0 w t b q s (a0 + i) 99 (by decide) (by omega) (by omega) (fun k hk => h3 k i (by omega) hk) (fun x y z => by rw [h4 i (by omega)]; exact iv99 y z) p b0 V hT hp hV q0 h0) (fun _ _ h => h) (fun v J h => ?_)
    obtain ⟨p2, b2, V2, rfl, r1, r2, r3, ⟨rfl, r4⟩ | ⟨rfl, r4⟩⟩ := h
    · rw [gB_l r4] at ho
      refine Rn.if_ne (tgt := 22) dX10_readLuck_17 (by decide) (fun h9 => absurd h9 (by decide)) (fun _ => ?_)
      refine Rn.iconst (v := (nI 0)) dX10_readLuck_20 rfl ?_
      exact Rn.zret dX10_readLuck_21 rfl rfl (⟨p2, b2, V2, rfl, r1, r2, r3, Or.inl ⟨rfl, ho.symm⟩⟩)
    · rw [gB_r r4] at ho
      refine Rn.if_ne (tgt := 22) dX10_readLuck_17 (by decide) (fun _ => ?_) (fun h9 => absurd h9 (by decide))
      refine Rn.iincN dX10_readLuck_22 rfl (by decide) ?_
      refine Rn.goto 2 dX10_readLuck_25 (by decide) ?_
      exact ih (i + 1) p2 b2 V2 (bl c e p2) (by omega) r1 r2 r3 rfl ho
theorem rk_luck (I : Hi) (V0 : Nat → Int32) (w t : Nat) (b : Nat → Int32) (q s : Nat) (a0 : Nat) (h1 : 4 ≤ a0) (h2 : a0 + 4 ≤ 377) (h3 : ∀ k i, i < 4 → k < t → 73 + 9 * k ≠ a0 + i) (h4 : ∀ i, i < 4 → wbx (a0 + i) = (0, 99)) (p b0 : Nat) (V : Nat → Int32) (hT : TY I c e) (hp : p ≤ e) (hb : b0 ≤ e) (hV : WV V0 w t b V) (q0 : Nat) (h0 : bl c e p = q0) : Ct G GAM mX10_readLuck (d + 4) 0 [.ref 94, .int (nI a0)] (PS I p b0 q s V) (Rv (RP c e V0 w t b I q s (cN c e 4 q0))) := by
  refine Ct.mk [some (.ref 94), some (.int (nI a0)), none] ?_
  refine Rn.iconst (v := (nI 0)) dX10_readLuck_0 rfl ?_
  refine Rn.istore_n dX10_readLuck_1 rfl (by decide) ?_
  exact lp_luck G d I V0 w t b q s a0 h1 h2 h3 h4 hT _ 4 0 p b0 V q0 rfl hp hb hV h0 rfl
end Rco
