theorem dX10_readCoastLine_0 : decode cX10_readCoastLine 0 = .ok (.aload_n 0, 1) := by decide +kernel
theorem dX10_readCoastLine_1 : decode cX10_readCoastLine 1 = .ok (.ldc 151, 2) := by decide +kernel
theorem dX10_readCoastLine_3 : decode cX10_readCoastLine 3 = .ok (.invokevirtual 117, 3) := by decide +kernel
theorem dX10_readCoastLine_6 : decode cX10_readCoastLine 6 = .ok (.ifCond .eq 8, 3) := by decide +kernel
theorem dX10_readCoastLine_9 : decode cX10_readCoastLine 9 = .ok (.aload_n 0, 1) := by decide +kernel
theorem dX10_readCoastLine_10 : decode cX10_readCoastLine 10 = .ok (.invokevirtual 153, 3) := by decide +kernel
theorem dX10_readCoastLine_13 : decode cX10_readCoastLine 13 = .ok (.ireturn, 1) := by decide +kernel
theorem dX10_readCoastLine_14 : decode cX10_readCoastLine 14 = .ok (.aload_n 0, 1) := by decide +kernel
theorem dX10_readCoastLine_15 : decode cX10_readCoastLine 15 = .ok (.ldc 157, 2) := by decide +kernel
theorem dX10_readCoastLine_17 : decode cX10_readCoastLine 17 = .ok (.invokevirtual 117, 3) := by decide +kernel
theorem dX10_readCoastLine_20 : decode cX10_readCoastLine 20 = .ok (.ifCond .eq 8, 3) := by decide +kernel
theorem dX10_readCoastLine_23 : decode cX10_readCoastLine 23 = .ok (.aload_n 0, 1) := by decide +kernel
theorem dX10_readCoastLine_24 : decode cX10_readCoastLine 24 = .ok (.invokevirtual 159, 3) := by decide +kernel
theorem dX10_readCoastLine_27 : decode cX10_readCoastLine 27 = .ok (.ireturn, 1) := by decide +kernel
theorem dX10_readCoastLine_28 : decode cX10_readCoastLine 28 = .ok (.aload_n 0, 1) := by decide +kernel
theorem dX10_readCoastLine_29 : decode cX10_readCoastLine 29 = .ok (.ldc 162, 2) := by decide +kernel
theorem sm_X10_162 : (RX10, 162, "price", 1009) ∈ zSR := by decide +kernel
theorem dX10_readCoastLine_31 : decode cX10_readCoastLine 31 = .ok (.invokevirtual 117, 3) := by decide +kernel
theorem dX10_readCoastLine_34 : decode cX10_readCoastLine 34 = .ok (.ifCond .eq 12, 3) := by decide +kernel
theorem dX10_readCoastLine_37 : decode cX10_readCoastLine 37 = .ok (.aload_n 0, 1) := by decide +kernel
theorem dX10_readCoastLine_38 : decode cX10_readCoastLine 38 = .ok (.iconst 5, 1) := by decide +kernel
theorem dX10_readCoastLine_39 : decode cX10_readCoastLine 39 = .ok (.iconst 0, 1) := by decide +kernel
theorem dX10_readCoastLine_40 : decode cX10_readCoastLine 40 = .ok (.bipush 50, 2) := by decide +kernel
theorem dX10_readCoastLine_42 : decode cX10_readCoastLine 42 = .ok (.invokevirtual 124, 3) := by decide +kernel
theorem dX10_readCoastLine_45 : decode cX10_readCoastLine 45 = .ok (.ireturn, 1) := by decide +kernel
theorem dX10_readCoastLine_46 : decode cX10_readCoastLine 46 = .ok (.aload_n 0, 1) := by decide +kernel
theorem dX10_readCoastLine_47 : decode cX10_readCoastLine 47 = .ok (.ldc 164, 2) := by decide +kernel
theorem sm_X10_164 : (RX10, 164, "love", 1010) ∈ zSR := by decide +kernel
theorem dX10_readCoastLine_49 : decode cX10_readCoastLine 49 = .ok (.invokevirtual 117, 3) := by decide +kernel
theorem dX10_readCoastLine_52 : decode cX10_readCoastLine 52 = .ok (.ifCond .eq 13, 3) := by decide +kernel
theorem dX10_readCoastLine_55 : decode cX10_readCoastLine 55 = .ok (.aload_n 0, 1) := by decide +kernel
theorem dX10_readCoastLine_56 : decode cX10_readCoastLine 56 = .ok (.bipush 6, 2) := by decide +kernel
theorem dX10_readCoastLine_58 : decode cX10_readCoastLine 58 = .ok (.iconst 0, 1) := by decide +kernel
theorem dX10_readCoastLine_59 : decode cX10_readCoastLine 59 = .ok (.bipush 100, 2) := by decide +kernel
theorem dX10_readCoastLine_61 : decode cX10_readCoastLine 61 = .ok (.invokevirtual 124, 3) := by decide +kernel
theorem dX10_readCoastLine_64 : decode cX10_readCoastLine 64 = .ok (.ireturn, 1) := by decide +kernel
theorem dX10_readCoastLine_65 : decode cX10_readCoastLine 65 = .ok (.aload_n 0, 1) := by decide +kernel
theorem dX10_readCoastLine_66 : decode cX10_readCoastLine 66 = .ok (.ldc 166, 2) := by decide +kernel
theorem sm_X10_166 : (RX10, 166, "day", 1011) ∈ zSR := by decide +kernel
theorem dX10_readCoastLine_68 : decode cX10_readCoastLine 68 = .ok (.invokevirtual 117, 3) := by decide +kernel
theorem dX10_readCoastLine_71 : decode cX10_readCoastLine 71 = .ok (.ifCond .eq 19, 3) := by decide +kernel
theorem dX10_readCoastLine_74 : decode cX10_readCoastLine 74 = .ok (.aload_n 0, 1) := by decide +kernel
theorem dX10_readCoastLine_75 : decode cX10_readCoastLine 75 = .ok (.iconst 4, 1) := by decide +kernel
theorem dX10_readCoastLine_76 : decode cX10_readCoastLine 76 = .ok (.iconst 0, 1) := by decide +kernel
theorem dX10_readCoastLine_77 : decode cX10_readCoastLine 77 = .ok (.sipush 999, 3) := by decide +kernel
theorem dX10_readCoastLine_80 : decode cX10_readCoastLine 80 = .ok (.invokevirtual 124, 3) := by decide +kernel
theorem dX10_readCoastLine_83 : decode cX10_readCoastLine 83 = .ok (.ifCond .eq 7, 3) := by decide +kernel
theorem dX10_readCoastLine_90 : decode cX10_readCoastLine 90 = .ok (.iconst 0, 1) := by decide +kernel
theorem dX10_readCoastLine_91 : decode cX10_readCoastLine 91 = .ok (.ireturn, 1) := by decide +kernel
theorem dX10_readCoastLine_86 : decode cX10_readCoastLine 86 = .ok (.iconst 1, 1) := by decide +kernel
theorem dX10_readCoastLine_87 : decode cX10_readCoastLine 87 = .ok (.goto 4, 3) := by decide +kernel
theorem dX10_readLine_9 : decode cX10_readLine 9 = .ok (.bipush 14, 2) := by decide +kernel
theorem dX10_readLine_11 : decode cX10_readLine 11 = .ok (.goto 5, 3) := by decide +kernel
theorem dX10_readLine_23 : decode cX10_readLine 23 = .ok (.aload_n 0, 1) := by decide +kernel
theorem dX10_readLine_24 : decode cX10_readLine 24 = .ok (.invokevirtual 224, 3) := by decide +kernel
theorem dX10_readLine_27 : decode cX10_readLine 27 = .ok (.ifCond .eq 18, 3) := by decide +kernel
theorem dX10_readLine_30 : decode cX10_readLine 30 = .ok (.goto 11, 3) := by decide +kernel
/-! the reference's coast: its lines, the text, coast itself -/
theorem RP.l {c : Nat → Nat} {e : Nat} {V0 : Nat → Int32} {w t : Nat} {b : Nat → Int32} {I : Hi} {q s : Nat} {o : Go} {v : Option Value} {J : Hi} (h : RP c e V0 w t b I q s o v J) : RLc c e V0 I q s (cMap o (fun q1 => ((w, t, b), q1))) v J := by
  obtain ⟨p', b', V', h1, h2, h3, h4, ⟨h5, h6⟩ | ⟨h5, h6⟩⟩ := h
  · exact ⟨p', b', V', h1, h2, h3, Or.inl ⟨h5, cMap_l h6, w, t, b, h4⟩⟩
  · exact ⟨p', b', V', h1, h2, h3, Or.inr ⟨(w, t, b), h5, cMap_r h6, h4⟩⟩
theorem RLc.v {c : Nat → Nat} {e : Nat} {V0 : Nat → Int32} {I : Hi} {q s : Nat} {o : Nat ⊕ (Cs × Nat)} {v : Option Value} {J : Hi} (h : RLc c e V0 I q s o v J) : v = some (.int (nI 0)) ∨ v = some (.int (nI 1)) := by
  obtain ⟨p', b', V', h1, h2, h3, ⟨h5, h6⟩ | ⟨st, h5, h6⟩⟩ := h
  · exact Or.inl h5
  · exact Or.inr h5
def RAc (c : Nat → Nat) (e : Nat) (I : Hi) (V0 : Nat → Int32) (o : Nat ⊕ (Cs × Nat)) (v : Option Value) (J : Hi) : Prop := ∃ (p b q s : Nat) (V' : Nat → Int32), J = PS I p b q s V' ∧ p ≤ e ∧ b ≤ e ∧ ((v = some (.int (-1)) ∧ o = .inl b ∧ ∃ w t bb, WV V0 w t bb V') ∨ (∃ (st : Cs) (n : Nat), v = some (.int (nI n)) ∧ n ≤ 14 ∧ o = .inr (st, n) ∧ WV V0 st.1 st.2.1 st.2.2 V'))
def LC5 (I : Hi) (g : Nat ⊕ (Cs × Nat)) (o : Rs) (J : Hi) : Prop := (∃ v, o = .inl (some (.int v))) ∧ BX J ∧ XM J ∧ J 94 6 = I 94 6 ∧ J 94 9 = nI 0 ∧ (∀ c, c ≠ 94 → c ≠ 95 → c ≠ 97 → J c = I c) ∧ ((∃ x, x ≤ 400 ∧ g = .inl x ∧ J 94 0 = nI 1 ∧ J 94 14 = nI x ∧ J 94 7 = I 94 7 ∧ (∀ j, j < 1226 → J 95 j = I 95 j)) ∨ (∃ (st : Cs) (n : Nat), g = .inr (st, n) ∧ I 95 2 = nI 12 ∧ J 94 0 = nI 2 ∧ J 94 14 = -1 ∧ J 94 7 = I 94 7 ∧ (∀ j, j < 1226 → J 95 j = I 95 j)) ∨ (∃ (st : Cs) (n : Nat), g = .inr (st, n) ∧ I 95 2 ≠ nI 12 ∧ o = .inl (some (.int (I 95 2 + nI 1))) ∧ J 94 0 = nI 0 ∧ J 94 14 = -1 ∧ J 94 7 = nI 0 ∧ J 95 0 = nI st.1 ∧ J 95 1 = nI st.2.1 ∧ J 95 2 = I 95 2 + nI 1 ∧ (∀ k, k < st.2.1 → J 95 (73 + 9 * k) = st.2.2 k) ∧ st.1 ≤ 8 ∧ st.2.1 ≤ 8))
section Rcl
variable (G : Gx) (d : Nat) {c : Nat → Nat} {e : Nat}
theorem rk_line (I : Hi) (V0 : Nat → Int32) (w t : Nat) (b : Nat → Int32) (q s : Nat) (p b0 : Nat) (V : Nat → Int32) (hT : TY I c e) (hp : p = lx c e b0) (hb : b0 ≤ e) (hV : WV V0 w t b V) : Ct G GAM mX10_readCoastLine (d + 7) 0 [.ref 94] (PS I p b0 q s V) (Rv (RLc c e V0 I q s (cLine c e (w, t, b) b0))) := by
  have he := hT.1
  have hle : p ≤ e := by rw [hp]; exact rn_le hb
  have h10 : (PS I p b0 q s V) 94 10 = nI (lx c e b0) := by rw [← hp]; rfl
  have hgo : ∀ x : Int32, wv c e b0 = x → x ≠ 0 → bl c e p = nx c e b0 := fun x h1 h2 => by rw [hp, nx_w (lx_gt h1 h2)]
  have hF : ∀ j, 4 ≤ j → j < 7 → ∀ (hi : Nat) (x : Int32), nI 0 ≤ x → x ≤ nI hi → inIv (wbx j) x := fun j h1 h2 hi x _ _ => by rw [wbx_F (Or.inl ⟨h1, h2⟩)]; exact inIv_F _
  refine Ct.mk [some (.ref 94)] ?_
  refine Rn.aload_n dX10_readCoastLine_0 rfl rfl ?_
  refine Rn.ldcS dX10_readCoastLine_1 sm_X10_151 ?_
  refine Rn.callV (As := [_]) dX10_readCoastLine_3 mv_X10_117 (by first | rfl | exact gC0 (by assumption) | exact gL0 (by assumption)) rfl rfl rfl (Nat.le_of_ble_eq_true rfl) (cx_isWord G (d + 2) (PS I p b0 q s V) 0 b0 (by decide) hT.ps hb h10 (by rfl)) (fun _ _ h => h) (fun v J h => ?_)
  obtain ⟨rfl, ⟨n1, rfl⟩ | ⟨h4, rfl, h5⟩⟩ := h
  rotate_left
  · rw [hz_0] at h4
    have ho : cLine c e (w, t, b) b0 = if w < 8 then cMap (cWoman c e (nx c e b0)) (fun q1 => ((w + 1, t, b), q1)) else .inl b0 := if_pos h4
    rw [ho]
    refine Rn.if_eq (tgt := 14) dX10_readCoastLine_6 (by decide) (fun h9 => absurd h9 (by decide)) (fun _ => ?_)
    refine Rn.aload_n dX10_readCoastLine_9 rfl rfl ?_
    refine Rn.callV (As := []) dX10_readCoastLine_10 mv_X10_153 (by first | rfl | exact gC0 (by assumption) | exact gL0 (by assumption)) rfl rfl rfl (Nat.le_of_ble_eq_true rfl) (rk_woman G d I V0 w t b q s p b0 V hT hle hb hV (nx c e b0) (hgo _ h4 (by decide))) (fun _ _ h => h) (fun v J h => ?_)
    rcases RLc.v h with rfl | rfl
    · exact Rn.zret dX10_readCoastLine_13 rfl rfl (h)
    · exact Rn.zret dX10_readCoastLine_13 rfl rfl (h)
  rw [hz_0] at n1
  refine Rn.if_eq (tgt := 14) dX10_readCoastLine_6 (by decide) (fun _ => ?_) (fun h9 => absurd h9 (by decide))
  refine Rn.aload_n dX10_readCoastLine_14 rfl rfl ?_
  refine Rn.ldcS dX10_readCoastLine_15 sm_X10_157 ?_
  refine Rn.callV (As := [_]) dX10_readCoastLine_17 mv_X10_117 (by first | rfl | exact gC0 (by assumption) | exact gL0 (by assumption)) rfl rfl rfl (Nat.le_of_ble_eq_true rfl) (cx_isWord G (d + 2) (PS I p b0 q s V) 4 b0 (by decide) hT.ps hb h10 (by rfl)) (fun _ _ h => h) (fun v J h => ?_)
  obtain ⟨rfl, ⟨n2, rfl⟩ | ⟨h4, rfl, h5⟩⟩ := h
  rotate_left
  · rw [hz_4] at h4
    have ho : cLine c e (w, t, b) b0 = if t < 8 then cMap (cThing c e w (nx c e b0)) (fun q1 => ((w, t + 1, upd b t (blB c e q1)), cFlag c e 78501 q1)) else .inl b0 := (if_neg n1).trans (if_pos h4)
    rw [ho]
    refine Rn.if_eq (tgt := 28) dX10_readCoastLine_20 (by decide) (fun h9 => absurd h9 (by decide)) (fun _ => ?_)
    refine Rn.aload_n dX10_readCoastLine_23 rfl rfl ?_
    refine Rn.callV (As := []) dX10_readCoastLine_24 mv_X10_159 (by first | rfl | exact gC0 (by assumption) | exact gL0 (by assumption)) rfl rfl rfl (Nat.le_of_ble_eq_true rfl) (rk_thing G d I V0 w t b q s p b0 V hT hle hb hV (nx c e b0) (hgo _ h4 (by decide))) (fun _ _ h => h) (fun v J h => ?_)
    rcases RLc.v h with rfl | rfl
    · exact Rn.zret dX10_readCoastLine_27 rfl rfl (h)
    · exact Rn.zret dX10_readCoastLine_27 rfl rfl (h)
  rw [hz_4] at n2
  refine Rn.if_eq (tgt := 28) dX10_readCoastLine_20 (by decide) (fun _ => ?_) (fun h9 => absurd h9 (by decide))
  refine Rn.aload_n dX10_readCoastLine_28 rfl rfl ?_
  refine Rn.ldcS dX10_readCoastLine_29 sm_X10_162 ?_
  refine Rn.callV (As := [_]) dX10_readCoastLine_31 mv_X10_117 (by first | rfl | exact gC0 (by assumption) | exact gL0 (by assumption)) rfl rfl rfl (Nat.le_of_ble_eq_true rfl) (cx_isWord G (d + 2) (PS I p b0 q s V) 9 b0 (by decide) hT.ps hb h10 (by rfl)) (fun _ _ h => h) (fun v J h => ?_)
  obtain ⟨rfl, ⟨n3, rfl⟩ | ⟨h4, rfl, h5⟩⟩ := h
  rotate_left
  · rw [hz_9] at h4
    have ho : cLine c e (w, t, b) b0 = cMap (gNum c e (nI 50) (nx c e b0)) (fun q1 => ((w, t, b), q1)) := (if_neg n1).trans ((if_neg n2).trans (if_pos h4))
    rw [ho]
    refine Rn.if_eq (tgt := 46) dX10_readCoastLine_34 (by decide) (fun h9 => absurd h9 (by decide)) (fun _ => ?_)
    refine Rn.aload_n dX10_readCoastLine_37 rfl rfl ?_
    refine Rn.iconst (v := (nI 5)) dX10_readCoastLine_38 rfl ?_
    refine Rn.iconst (v := (nI 0)) dX10_readCoastLine_39 rfl ?_
    refine Rn.bipush (v := (nI 50)) dX10_readCoastLine_40 rfl ?_
    refine Rn.callV (As := [_, _, _]) dX10_readCoastLine_42 mv_X10_124 (by first | rfl | exact gC0 (by assumption) | exact gL0 (by assumption)) rfl rfl rfl (Nat.le_of_ble_eq_true rfl) (rk_num G (d + 3) I V0 w t b q s 5 50 (by decide) (by decide) (by decide) (fun k hk => by omega) (hF 5 (by decide) (by decide) 50) p b0 V hT hle hV (nx c e b0) (hgo _ h4 (by decide))) (fun _ _ h => h) (fun v J h => ?_)
    have h := RP.l h
    rcases RLc.v h with rfl | rfl
    · exact Rn.zret dX10_readCoastLine_45 rfl rfl (h)
    · exact Rn.zret dX10_readCoastLine_45 rfl rfl (h)
  rw [hz_9] at n3
  refine Rn.if_eq (tgt := 46) dX10_readCoastLine_34 (by decide) (fun _ => ?_) (fun h9 => absurd h9 (by decide))
  refine Rn.aload_n dX10_readCoastLine_46 rfl rfl ?_
  refine Rn.ldcS dX10_readCoastLine_47 sm_X10_164 ?_
  refine Rn.callV (As := [_]) dX10_readCoastLine_49 mv_X10_117 (by first | rfl | exact gC0 (by assumption) | exact gL0 (by assumption)) rfl rfl rfl (Nat.le_of_ble_eq_true rfl) (cx_isWord G (d + 2) (PS I p b0 q s V) 10 b0 (by decide) hT.ps hb h10 (by rfl)) (fun _ _ h => h) (fun v J h => ?_)
  obtain ⟨rfl, ⟨n4, rfl⟩ | ⟨h4, rfl, h5⟩⟩ := h
  rotate_left
  · rw [hz_10] at h4
    have ho : cLine c e (w, t, b) b0 = cMap (gNum c e (nI 100) (nx c e b0)) (fun q1 => ((w, t, b), q1)) := (if_neg n1).trans ((if_neg n2).trans ((if_neg n3).trans (if_pos h4)))
    rw [ho]
    refine Rn.if_eq (tgt := 65) dX10_readCoastLine_52 (by decide) (fun h9 => absurd h9 (by decide)) (fun _ => ?_)
    refine Rn.aload_n dX10_readCoastLine_55 rfl rfl ?_
    refine Rn.bipush (v := (nI 6)) dX10_readCoastLine_56 rfl ?_
    refine Rn.iconst (v := (nI 0)) dX10_readCoastLine_58 rfl ?_
    refine Rn.bipush (v := (nI 100)) dX10_readCoastLine_59 rfl ?_
    refine Rn.callV (As := [_, _, _]) dX10_readCoastLine_61 mv_X10_124 (by first | rfl | exact gC0 (by assumption) | exact gL0 (by assumption)) rfl rfl rfl (Nat.le_of_ble_eq_true rfl) (rk_num G (d + 3) I V0 w t b q s 6 100 (by decide) (by decide) (by decide) (fun k hk => by omega) (hF 6 (by decide) (by decide) 100) p b0 V hT hle hV (nx c e b0) (hgo _ h4 (by decide))) (fun _ _ h => h) (fun v J h => ?_)
    have h := RP.l h
    rcases RLc.v h with rfl | rfl
    · exact Rn.zret dX10_readCoastLine_64 rfl rfl (h)
    · exact Rn.zret dX10_readCoastLine_64 rfl rfl (h)
  rw [hz_10] at n4
  refine Rn.if_eq (tgt := 65) dX10_readCoastLine_52 (by decide) (fun _ => ?_) (fun h9 => absurd h9 (by decide))
  refine Rn.aload_n dX10_readCoastLine_65 rfl rfl ?_
  refine Rn.ldcS dX10_readCoastLine_66 sm_X10_166 ?_
  refine Rn.callV (As := [_]) dX10_readCoastLine_68 mv_X10_117 (by first | rfl | exact gC0 (by assumption) | exact gL0 (by assumption)) rfl rfl rfl (Nat.le_of_ble_eq_true rfl) (cx_isWord G (d + 2) (PS I p b0 q s V) 11 b0 (by decide) hT.ps hb h10 (by rfl)) (fun _ _ h => h) (fun v J h => ?_)
  obtain ⟨rfl, ⟨n5, rfl⟩ | ⟨h4, rfl, h5⟩⟩ := h
  rotate_left
  · rw [hz_11] at h4
    have ho : cLine c e (w, t, b) b0 = cMap (gNum c e (nI 999) (nx c e b0)) (fun q1 => ((w, t, b), q1)) := (if_neg n1).trans ((if_neg n2).trans ((if_neg n3).trans ((if_neg n4).trans (if_pos h4))))
    rw [ho]
    refine Rn.if_eq (tgt := 90) dX10_readCoastLine_71 (by decide) (fun h9 => absurd h9 (by decide)) (fun _ => ?_)
    refine Rn.aload_n dX10_readCoastLine_74 rfl rfl ?_
    refine Rn.iconst (v := (nI 4)) dX10_readCoastLine_75 rfl ?_
    refine Rn.iconst (v := (nI 0)) dX10_readCoastLine_76 rfl ?_
    refine Rn.sipush (v := (nI 999)) dX10_readCoastLine_77 rfl ?_
    refine Rn.callV (As := [_, _, _]) dX10_readCoastLine_80 mv_X10_124 (by first | rfl | exact gC0 (by assumption) | exact gL0 (by assumption)) rfl rfl rfl (Nat.le_of_ble_eq_true rfl) (rk_num G (d + 3) I V0 w t b q s 4 999 (by decide) (by decide) (by decide) (fun k hk => by omega) (hF 4 (by decide) (by decide) 999) p b0 V hT hle hV (nx c e b0) (hgo _ h4 (by decide))) (fun _ _ h => h) (fun v J h => ?_)
    have h := RP.l h
    rcases RLc.v h with rfl | rfl
    · refine Rn.if_eq (tgt := 90) dX10_readCoastLine_83 (by decide) (fun _ => ?_) (fun h9 => absurd h9 (by decide))
      refine Rn.iconst (v := (nI 0)) dX10_readCoastLine_90 rfl ?_
      exact Rn.zret dX10_readCoastLine_91 rfl rfl (h)
    · refine Rn.if_eq (tgt := 90) dX10_readCoastLine_83 (by decide) (fun h9 => absurd h9 (by decide)) (fun _ => ?_)
      refine Rn.iconst (v := (nI 1)) dX10_readCoastLine_86 rfl ?_
      refine Rn.goto 91 dX10_readCoastLine_87 (by decide) ?_
      exact Rn.zret dX10_readCoastLine_91 rfl rfl (h)
  rw [hz_11] at n5
  have ho : cLine c e (w, t, b) b0 = .inl b0 := (if_neg n1).trans ((if_neg n2).trans ((if_neg n3).trans ((if_neg n4).trans (if_neg n5))))
  refine Rn.if_eq (tgt := 90) dX10_readCoastLine_71 (by decide) (fun _ => ?_) (fun h9 => absurd h9 (by decide))
  refine Rn.iconst (v := (nI 0)) dX10_readCoastLine_90 rfl ?_
  exact Rn.zret dX10_readCoastLine_91 rfl rfl (⟨p, b0, V, rfl, hle, hb, Or.inl ⟨rfl, ho, w, t, b, hV⟩⟩)
theorem rk_lineC (I : Hi) (V0 : Nat → Int32) (st : Cs) (n : Nat) (hn : n < 1000) (q s : Nat) (p b0 : Nat) (V : Nat → Int32) (hT : TY I c e) (hp : p ≤ e) (hb : b0 ≤ e) (hV : WV V0 st.1 st.2.1 st.2.2 V) (q0 : Nat) (h0 : bl c e p = q0) : Ct G GAM mX10_readLine (d + 8) 0 [.ref 94, .int (nI 1), .int (nI n)] (PS I p b0 q s V) (Rv (RLc c e V0 I q s (if n < 14 then cLine c e st q0 else .inl q0))) := by
  have he := hT.1
  refine Ct.mk [some (.ref 94), some (.int (nI 1)), some (.int (nI n))] ?_
  refine Rn.aload_n dX10_readLine_0 rfl rfl ?_
  refine Rn.callV (As := []) dX10_readLine_1 mv_X10_114 (by first | rfl | exact gC0 (by assumption) | exact gL0 (by assumption)) rfl rfl rfl (Nat.le_of_ble_eq_true rfl) (cx_letters G (d + 5) (PS I p b0 q s V) p hT.ps hp (by rfl)) (fun _ _ h => h) (fun v J h => ?_)
  obtain ⟨rfl, p1, b1, q1, q2, q3, rfl, hb1, hp1⟩ := h
  rw [h0] at hb1
  subst hb1
  refine Rn.hpp _ (PS_PB _ _ _ _ _ _ _ _) ?_
  refine Rn.iload_n dX10_readLine_4 rfl rfl ?_
  refine Rn.iload_n dX10_readLine_5 rfl rfl ?_
  refine Rn.if_eq (tgt := 14) dX10_readLine_6 (by decide) (fun h9 => absurd h9 (by decide)) (fun _ => ?_)
  refine Rn.bipush (v := (nI 14)) dX10_readLine_9 rfl ?_
  refine Rn.goto 16 dX10_readLine_11 (by decide) ?_
  refine Rn.icmp_geN dX10_readLine_16 45 (fun h1 => ?_) (fun h1 => ?_)
  · rw [if_neg (by omega)]
    refine Rn.iconst (v := (nI 0)) dX10_readLine_45 rfl ?_
    exact Rn.zret dX10_readLine_46 rfl rfl (⟨p1, b1, V, rfl, q3, by omega, Or.inl ⟨rfl, rfl, _, _, _, hV⟩⟩)
  · rw [if_pos (by omega)]
    refine Rn.iload_n dX10_readLine_19 rfl rfl ?_
    refine Rn.if_eq (tgt := 33) dX10_readLine_20 (by decide) (fun h9 => absurd h9 (by decide)) (fun _ => ?_)
    refine Rn.aload_n dX10_readLine_23 rfl rfl ?_
    refine Rn.callV (As := []) dX10_readLine_24 mv_X10_224 (by first | rfl | exact gC0 (by assumption) | exact gL0 (by assumption)) rfl rfl rfl (Nat.le_of_ble_eq_true rfl) (rk_line G d I V0 st.1 st.2.1 st.2.2 q s p1 b1 V hT hp1 (by omega) hV) (fun _ _ h => h) (fun v J h => ?_)
    rcases RLc.v h with rfl | rfl
    · refine Rn.if_eq (tgt := 45) dX10_readLine_27 (by decide) (fun _ => ?_) (fun h9 => absurd h9 (by decide))
      refine Rn.iconst (v := (nI 0)) dX10_readLine_45 rfl ?_
      exact Rn.zret dX10_readLine_46 rfl rfl (h)
    · refine Rn.if_eq (tgt := 45) dX10_readLine_27 (by decide) (fun h9 => absurd h9 (by decide)) (fun _ => ?_)
      refine Rn.goto 41 dX10_readLine_30 (by decide) ?_
      refine Rn.iconst (v := (nI 1)) dX10_readLine_41 rfl ?_
      refine Rn.goto 46 dX10_readLine_42 (by decide) ?_
      exact Rn.zret dX10_readLine_46 rfl rfl (h)
theorem lp_rdC (I : Hi) (V0 : Nat → Int32) (hT : TY I c e) (o : Nat ⊕ (Cs × Nat)) (q s : Nat) : ∀ (m n p b0 : Nat) (V : Nat → Int32) (st : Cs) (q0 : Nat), n + m = 14 → bl c e p = q0 → cText c e m n st q0 = o → p ≤ e → b0 ≤ e → WV V0 st.1 st.2.1 st.2.2 V → Rn G GAM mX10_readAll (kM G GAM (Rv (RAc c e I V0 o))) (d + 9) 0 28 [some (.ref 94), some (.int (nI 1)), some (.int (nI n))] [] (PS I p b0 q s V) := by
  have he := hT.1
  intro m
  induction m with
  | zero =>
    intro n p b0 V st q0 hn h0 ho hp hb hV
    have ho : Sum.inl q0 = o := ho
    refine Rn.aload_n dX10_readAll_28 rfl rfl ?_
    refine Rn.iload_n dX10_readAll_29 rfl rfl ?_
    refine Rn.iload_n dX10_readAll_30 rfl rfl ?_
    refine Rn.callV (As := [_, _]) dX10_readAll_31 mv_X10_233 (by first | rfl | exact gC0 (by assumption) | exact gL0 (by assumption)) rfl rfl rfl (Nat.le_of_ble_eq_true rfl) (rk_lineC G d I V0 st n (by omega) q s p b0 V hT hp hb hV q0 h0) (fun _ _ h => h) (fun v J h => ?_)
    rw [if_neg (by omega)] at h
    obtain ⟨p2, b2, V2, rfl, t1, t2, ⟨rfl, t3, t4⟩ | ⟨st2, rfl, t3, t4⟩⟩ := h
    · refine Rn.if_ne (tgt := 39) dX10_readAll_34 (by decide) (fun h9 => absurd h9 (by decide)) (fun _ => ?_)
      refine Rn.iconst (v := (-1)) dX10_readAll_37 rfl ?_
      exact Rn.iret dX10_readAll_38 rfl (⟨p2, b2, q, s, V2, rfl, t1, t2, Or.inl ⟨rfl, ho.symm.trans t3, t4⟩⟩)
    · exact nomatch t3
  | succ m ih =>
    intro n p b0 V st q0 hn h0 ho hp hb hV
    have ho : (match cLine c e st q0 with
      | .inl x => .inl x
      | .inr (s1, q1) => if e ≤ q1 then .inr (s1, n + 1) else if fs c e q1 = nI 59 then cText c e m (n + 1) s1 (nx c e q1) else .inl q1) = o := ho
    refine Rn.aload_n dX10_readAll_28 rfl rfl ?_
    refine Rn.iload_n dX10_readAll_29 rfl rfl ?_
    refine Rn.iload_n dX10_readAll_30 rfl rfl ?_
    refine Rn.callV (As := [_, _]) dX10_readAll_31 mv_X10_233 (by first | rfl | exact gC0 (by assumption) | exact gL0 (by assumption)) rfl rfl rfl (Nat.le_of_ble_eq_true rfl) (rk_lineC G d I V0 st n (by omega) q s p b0 V hT hp hb hV q0 h0) (fun _ _ h => h) (fun v J h => ?_)
    rw [if_pos (by omega)] at h
    obtain ⟨p2, b2, V2, rfl, t1, t2, ⟨rfl, t3, t4⟩ | ⟨st2, rfl, t3, t4⟩⟩ := h
    · rw [t3] at ho
      refine Rn.if_ne (tgt := 39) dX10_readAll_34 (by decide) (fun h9 => absurd h9 (by decide)) (fun _ => ?_)
      refine Rn.iconst (v := (-1)) dX10_readAll_37 rfl ?_
      exact Rn.iret dX10_readAll_38 rfl (⟨p2, b2, q, s, V2, rfl, t1, t2, Or.inl ⟨rfl, ho.symm, t4⟩⟩)
    · rw [t3] at ho
      have ho : (if e ≤ bl c e p2 then .inr (st2, n + 1) else if fs c e (bl c e p2) = nI 59 then cText c e m (n + 1) st2 (nx c e (bl c e p2)) else .inl (bl c e p2)) = o := ho
      refine Rn.if_ne (tgt := 39) dX10_readAll_34 (by decide) (fun _ => ?_) (fun h9 => absurd h9 (by decide))
      refine Rn.aload_n dX10_readAll_39 rfl rfl ?_
      refine Rn.callV (As := []) dX10_readAll_40 mv_X10_102 (by first | rfl | exact gC0 (by assumption) | exact gL0 (by assumption)) rfl rfl rfl (Nat.le_of_ble_eq_true rfl) (cx_blanks G (d + 7) (PS I p2 b2 q s V2) p2 hT.ps t1 (by rfl)) (fun _ _ h => h) (fun v J h => ?_)
      obtain ⟨rfl, p3, r3, r4, rfl, r5⟩ := h
      rw [← r5] at ho
      refine Rn.hpp _ (PS_PB _ _ _ _ _ _ _ _) ?_
      refine Rn.aload_n dX10_readAll_43 rfl rfl ?_
      refine Rn.getI dX10_readAll_44 fd_X10_89_9 (by first | rfl | exact gC0 (by assumption) | exact gL0 (by assumption)) rfl ?_
      refine Rn.topI (nI p3) (by rfl) ?_
      refine Rn.aload_n dX10_readAll_47 rfl rfl ?_
      refine Rn.getI dX10_readAll_48 fd_X10_92_9 (by first | rfl | exact gC0 (by assumption) | exact gL0 (by assumption)) rfl ?_
      refine Rn.topI (nI e) (by exact hT.2.1) ?_
      refine Rn.icmp_neN dX10_readAll_51 58 (fun h5 => ?_) (fun h5 => ?_)
      · rw [if_neg (by omega)] at ho
        refine Rn.aload_n dX10_readAll_58 rfl rfl ?_
        refine Rn.bipush (v := (nI 59)) dX10_readAll_59 rfl ?_
        refine Rn.bipush (v := (nI 59)) dX10_readAll_61 rfl ?_
        refine Rn.callV (As := [_, _]) dX10_readAll_63 mv_X10_95 (by first | rfl | exact gC0 (by assumption) | exact gL0 (by assumption)) rfl rfl rfl (Nat.le_of_ble_eq_true rfl) (cx_isAt G (d + 8) (PS I p3 p3 q s V2) 59 59 p3 (by decide) (by decide) hT.ps r4 (by rfl)) (fun _ _ h => h) (fun v J h => ?_)
        obtain ⟨rfl, ⟨h6, rfl⟩ | ⟨h6, rfl⟩⟩ := h
        · rw [if_neg (fs_ne (by decide) (fun z => (hT.2.2 p3 z).1) (fun z => h6 ⟨z.1, by omega, by omega⟩))] at ho
          refine Rn.if_ne (tgt := 71) dX10_readAll_66 (by decide) (fun h9 => absurd h9 (by decide)) (fun _ => ?_)
          refine Rn.iconst (v := (-1)) dX10_readAll_69 rfl ?_
          exact Rn.iret dX10_readAll_70 rfl (⟨p3, p3, q, s, V2, rfl, r4, r4, Or.inl ⟨rfl, ho.symm, _, _, _, t4⟩⟩)
        · have h7 : c p3 = 59 := by omega
          rw [if_pos (show fs c e p3 = nI 59 by rw [fs, if_pos h6.1, h7])] at ho
          refine Rn.if_ne (tgt := 71) dX10_readAll_66 (by decide) (fun _ => ?_) (fun h9 => absurd h9 (by decide))
          refine Rn.aload_n dX10_readAll_71 rfl rfl ?_
          refine Rn.dup dX10_readAll_72 rfl ?_
          refine Rn.getI dX10_readAll_73 fd_X10_89_9 (by first | rfl | exact gC0 (by assumption) | exact gL0 (by assumption)) rfl ?_
          refine Rn.topI (nI p3) (by rfl) ?_
          refine Rn.iconst (v := (nI 1)) dX10_readAll_76 rfl ?_
          refine Rn.iadd dX10_readAll_77 ?_
          refine Rn.topI (nI (p3 + 1)) (by exact nI_1 p3) ?_
          refine Rn.putI dX10_readAll_78 fp_X10_89_9 (by first | rfl | exact gC0 (by assumption) | exact gL0 (by assumption)) rfl ?_
          refine Rn.iincN dX10_readAll_81 rfl (by decide) ?_
          refine Rn.goto 28 dX10_readAll_84 (by decide) ?_
          exact Rn.hpp _ (PS_10 _ _ _ _ _ _ _) (ih (n + 1) (p3 + 1) p3 V2 st2 (nx c e p3) (by omega) (nx_s (by omega) (by omega)).symm ho (by omega) r4 t4)
      · rw [if_pos (by omega)] at ho
        refine Rn.iload_n dX10_readAll_54 rfl rfl ?_
        refine Rn.iconst (v := (nI 1)) dX10_readAll_55 rfl ?_
        refine Rn.iadd dX10_readAll_56 ?_
        refine Rn.topI (nI (n + 1)) (by exact nI_1 n) ?_
        exact Rn.iret dX10_readAll_57 rfl (⟨p3, p3, q, s, V2, rfl, r4, r4, Or.inr ⟨st2, n + 1, rfl, by omega, ho.symm, t4⟩⟩)
theorem ct_rdC (I : Hi) (st : Cs) (hT : e ≤ 400 ∧ I 94 9 = nI e ∧ ∀ i, i < e → c i < 256 ∧ I 100 i = sb (c i)) (hB : BX I) (hV : WV (I 95) st.1 st.2.1 st.2.2 (I 95)) : Ct G GAM mX10_readAll (d + 9) 0 [.ref 94, .int (nI 1)] I (Rv (RAc c e (HI I) (I 95) (cCoast c e st))) := by
  have he := hT.1
  have hT2 : TY (HI I) c e := ⟨hT.1, hT.2.1, hT.2.2⟩
  refine Ct.mk [some (.ref 94), some (.int (nI 1)), none] ?_
  obtain ⟨b, hb, h12⟩ := nI_iv (n := 400) (show inIv (0, 400) (I 94 12) from hB 94 12)
  obtain ⟨q, h13⟩ := anyN (I 94 13)
  refine Rn.aload_n dX10_readAll_0 rfl rfl ?_
  refine Rn.callVp (As := []) dX10_readAll_1 mv_X10_230 (by first | rfl | exact gC0 (by assumption) | exact gL0 (by assumption)) rfl rfl rfl (Nat.le_of_ble_eq_true rfl) (ct_uses G _ _) ?_
  refine Rn.aload_n dX10_readAll_4 rfl rfl ?_
  refine Rn.iconst (v := (nI 0)) dX10_readAll_5 rfl ?_
  refine Rn.putI dX10_readAll_6 fp_X10_168_9 (by first | rfl | exact gC0 (by assumption) | exact gL0 (by assumption)) rfl ?_
  refine Rn.hpp (PS (HI I) 0 b q 0 (I 95)) ((PS_self (H := HI I) (by rfl) (by exact h12) (by exact h13) (by rfl)).symm) ?_
  refine Rn.aload_n dX10_readAll_9 rfl rfl ?_
  refine Rn.callV (As := []) dX10_readAll_10 mv_X10_102 (by first | rfl | exact gC0 (by assumption) | exact gL0 (by assumption)) rfl rfl rfl (Nat.le_of_ble_eq_true rfl) (cx_blanks G (d + 7) (PS (HI I) 0 b q 0 (I 95)) 0 hT2.ps (by omega) (by rfl)) (fun _ _ h => h) (fun v J h => ?_)
  obtain ⟨rfl, p1, q1, q2, rfl, q3⟩ := h
  refine Rn.hpp _ (PS_PB _ _ _ _ _ _ _ _) ?_
  refine Rn.aload_n dX10_readAll_13 rfl rfl ?_
  refine Rn.getI dX10_readAll_14 fd_X10_89_9 (by first | rfl | exact gC0 (by assumption) | exact gL0 (by assumption)) rfl ?_
  refine Rn.topI (nI p1) (by rfl) ?_
  refine Rn.aload_n dX10_readAll_17 rfl rfl ?_
  refine Rn.getI dX10_readAll_18 fd_X10_92_9 (by first | rfl | exact gC0 (by assumption) | exact gL0 (by assumption)) rfl ?_
  refine Rn.topI (nI e) (by exact hT.2.1) ?_
  refine Rn.icmp_neN dX10_readAll_21 26 (fun h1 => ?_) (fun h1 => ?_)
  · have ho : cCoast c e st = cText c e 14 0 st p1 := by
      unfold cCoast
      rw [← q3, if_neg (by omega)]
    rw [ho]
    refine Rn.iconst (v := (nI 0)) dX10_readAll_26 rfl ?_
    refine Rn.istore_n dX10_readAll_27 rfl (by decide) ?_
    exact lp_rdC G d (HI I) (I 95) hT2 _ q 0 14 0 p1 p1 (I 95) st p1 rfl (by rw [q3, bl_bl]) rfl q2 q2 hV
  · have ho : cCoast c e st = .inr (st, 0) := by
      unfold cCoast
      rw [← q3, if_pos (by omega)]
    refine Rn.iconst (v := (nI 0)) dX10_readAll_24 rfl ?_
    exact Rn.iret dX10_readAll_25 rfl (⟨p1, p1, q, 0, I 95, rfl, q2, q2, Or.inr ⟨st, 0, rfl, by decide, ho, hV⟩⟩)
end Rcl
