theorem upd_ne (f : Nat → Int32) {a j : Nat} (v : Int32) (h : j ≠ a) : upd f a v j = f j := by simp [upd, h]
theorem upd_at (f : Nat → Int32) (a : Nat) (v : Int32) : upd f a v a = v := by simp [upd]
theorem wedS_out (W m : Nat → Int32) {w t j : Nat} : ∀ n, (∀ s, s < n → j ≠ 9 + 7 * w + s ∧ j ≠ 65 + 9 * t + s) → wedS W m w t n j = W j := by
  intro n
  induction n with
  | zero => intro _; rfl
  | succ n ih =>
    intro h
    simp only [wedS]
    rw [upd_ne _ _ (h n (by omega)).2, upd_ne _ _ (h n (by omega)).1, ih (fun s hs => h s (by omega))]
theorem wedW_out (W : Nat → Int32) (op bg en : Nat → Nat) (L : Nat) {w t j : Nat} (h : ∀ s, s < 4 → j ≠ 9 + 7 * w + s ∧ j ≠ 65 + 9 * t + s) (h6 : j ≠ 65 + 9 * t + 6) (h7 : j ≠ 65 + 9 * t + 7) (h5 : j ≠ 9 + 7 * w + 5) : wedW W op bg en L w t j = W j := by
  have hx : wedX W op bg en L w t j = W j := by rw [wedX, upd_ne _ _ h6, wedS_out _ _ 4 h]
  have hy : wedY W op bg en L w t j = W j := by
    rw [wedY]
    split
    · rw [upd_ne _ _ h7, hx]
    · exact hx
  rw [wedW, upd_ne _ _ h5, hy]
theorem wedS_w (W m : Nat → Int32) {w t : Nat} (hw : w < 8) : ∀ n, ∀ s, n ≤ s → s < 4 → wedS W m w t n (9 + 7 * w + s) = W (9 + 7 * w + s) := by
  intro n s h1 h2
  exact wedS_out W m n (fun q hq => ⟨by omega, by omega⟩)
theorem wedS_t (W m : Nat → Int32) {w t : Nat} (hw : w < 8) : ∀ n, ∀ s, n ≤ s → s < 4 → wedS W m w t n (65 + 9 * t + s) = W (65 + 9 * t + s) := by
  intro n s h1 h2
  exact wedS_out W m n (fun q hq => ⟨by omega, by omega⟩)
/-- what goes is at most the half of the difference -/
theorem more_iv {f lw lt : Int32} (hf : inIv (0, 720) f) (h1 : inIv (0, 99) lw) (h2 : inIv (0, 99) lt) (m : Int32) (hm : m = if lt - lw < 0 then - imin f (iabs (lt - lw) / nI 2) else imin f (iabs (lt - lw) / nI 2)) : inIv (0, 99) (lw + m) ∧ inIv (0, 99) (lt - m) := by
  have hd := ivSub_ok h2 h1
  unfold inIv at hf h1 h2
  simp only at hf h1 h2
  have ed : (lt - lw).toInt = lt.toInt - lw.toInt := by
    rw [← Int32.ofInt_toInt lt, ← Int32.ofInt_toInt lw, ← Int32.ofInt_sub, Int32.ofInt_toInt, Int32.ofInt_toInt]
    exact toI_of (by omega) (by omega)
  have ea : (iabs (lt - lw)).toInt = if 0 ≤ lt.toInt - lw.toInt then lt.toInt - lw.toInt else lw.toInt - lt.toInt := by
    unfold iabs
    split
    · rename_i h
      have h := Int32.le_iff_toInt_le.mp h
      rw [Int32.toInt_zero, ed] at h
      rw [if_pos h, ed]
    · rename_i h
      have h := Int32.lt_iff_toInt_lt.mp (Int32.not_le.mp h)
      rw [Int32.toInt_zero, ed] at h
      rw [if_neg (by omega)]
      have e0 : (0 : Int32) - (lt - lw) = Int32.ofInt (0 - (lt.toInt - lw.toInt)) := by rw [Int32.ofInt_sub, ← ed, Int32.ofInt_toInt]; rfl
      rw [e0, toI_of (by omega) (by omega)]
      omega
  have eq : (iabs (lt - lw) / nI 2).toInt = (iabs (lt - lw)).toInt / 2 := by
    rw [Int32.toInt_div_of_ne_right _ _ (by decide), show (nI 2).toInt = 2 from rfl]
    refine Int.tdiv_eq_ediv_of_nonneg ?_
    rw [ea]
    split <;> omega
  have hq : 0 ≤ (imin f (iabs (lt - lw) / nI 2)).toInt ∧ (imin f (iabs (lt - lw) / nI 2)).toInt ≤ (iabs (lt - lw)).toInt / 2 := by
    rw [← eq]
    unfold imin
    split
    · rename_i h
      have h := Int32.lt_iff_toInt_lt.mp h
      rw [eq, ea] at h ⊢
      by_cases hz : 0 ≤ lt.toInt - lw.toInt
      · rw [if_pos hz] at h ⊢; omega
      · rw [if_neg hz] at h ⊢; omega
    · rename_i h
      have h := Int32.le_iff_toInt_le.mp (Int32.not_lt.mp h)
      omega
  generalize imin f (iabs (lt - lw) / nI 2) = q at hq hm
  rw [ea] at hq
  have em : m.toInt = if lt.toInt - lw.toInt < 0 then - q.toInt else q.toInt := by
    rw [hm]
    by_cases h : lt - lw < 0
    · have h' := Int32.lt_iff_toInt_lt.mp h
      rw [Int32.toInt_zero, ed] at h'
      rw [if_pos h, if_pos h']
      have e0 : - q = Int32.ofInt (- q.toInt) := by rw [Int32.ofInt_neg, Int32.ofInt_toInt]
      rw [e0]
      split at hq
      · exact toI_of (by omega) (by omega)
      · exact toI_of (by omega) (by omega)
    · have h' := Int32.le_iff_toInt_le.mp (Int32.not_lt.mp h)
      rw [Int32.toInt_zero, ed] at h'
      rw [if_neg h, if_neg (by omega)]
  have e1 : (lw + m).toInt = lw.toInt + m.toInt := by
    rw [← Int32.ofInt_toInt lw, ← Int32.ofInt_toInt m, ← Int32.ofInt_add, Int32.ofInt_toInt, Int32.ofInt_toInt]
    refine toI_of ?_ ?_ <;> (rw [em]; split at hq <;> split <;> omega)
  have e2 : (lt - m).toInt = lt.toInt - m.toInt := by
    rw [← Int32.ofInt_toInt lt, ← Int32.ofInt_toInt m, ← Int32.ofInt_sub, Int32.ofInt_toInt, Int32.ofInt_toInt]
    refine toI_of ?_ ?_ <;> (rw [em]; split at hq <;> split <;> omega)
  unfold inIv
  rw [e1, e2, em]
  simp only
  split at hq <;> split <;> omega
theorem wbx_w {w s : Nat} (hw : w < 8) (hs : s < 4) : wbx (9 + 7 * w + s) = (0, 99) := by
  unfold wbx
  rw [if_neg (by omega), if_neg (by omega), if_neg (by omega), if_neg (by omega), if_pos (by omega), if_pos (by omega)]
theorem wbx_t {t s : Nat} (ht : t < 8) (hs : s < 4) : wbx (65 + 9 * t + s) = (0, 99) := by
  unfold wbx
  rw [if_neg (by omega), if_neg (by omega), if_neg (by omega), if_neg (by omega), if_neg (by omega), if_pos (by omega), if_pos (by omega)]
theorem wbx_o {p : Nat} (h : (∃ w, w < 8 ∧ p = 9 + 7 * w + 5) ∨ (∃ t, t < 8 ∧ (p = 65 + 9 * t + 6 ∨ p = 65 + 9 * t + 7))) : wbx p = ivF := by
  unfold wbx
  rcases h with ⟨w, hw, rfl⟩ | ⟨t, ht, rfl | rfl⟩
  · rw [if_neg (by omega), if_neg (by omega), if_neg (by omega), if_neg (by omega), if_pos (by omega), if_neg (by omega)]
  · rw [if_neg (by omega), if_neg (by omega), if_neg (by omega), if_neg (by omega), if_neg (by omega), if_pos (by omega), if_neg (by omega), if_neg (by omega), if_neg (by omega)]
  · rw [if_neg (by omega), if_neg (by omega), if_neg (by omega), if_neg (by omega), if_neg (by omega), if_pos (by omega), if_neg (by omega), if_neg (by omega), if_neg (by omega)]
theorem wedS_iv {W m : Nat → Int32} {w t : Nat} (hw : w < 8) (ht : t < 8) (hW : ∀ j, j < 377 → inIv (wbx j) (W j)) (hm : ∀ s, s < 4 → inIv (0, 99) (W (9 + 7 * w + s) + m s) ∧ inIv (0, 99) (W (65 + 9 * t + s) - m s)) : ∀ n, n ≤ 4 → ∀ j, j < 377 → inIv (wbx j) (wedS W m w t n j) := by
  intro n
  induction n with
  | zero => intro _ j hj; exact hW j hj
  | succ n ih =>
    intro hn j hj
    simp only [wedS]
    by_cases e1 : j = 65 + 9 * t + n
    · subst e1
      rw [upd_at, upd_ne _ _ (by omega), wedS_t W m hw n n (Nat.le_refl _) (by omega), wbx_t ht (by omega)]
      exact (hm n (by omega)).2
    · rw [upd_ne _ _ e1]
      by_cases e2 : j = 9 + 7 * w + n
      · subst e2
        rw [upd_at, wedS_w W m hw n n (Nat.le_refl _) (by omega), wbx_w hw (by omega)]
        exact (hm n (by omega)).1
      · rw [upd_ne _ _ e2]
        exact ih (by omega) j hj
theorem flowV_iv {W : Nat → Int32} {op bg en : Nat → Nat} {L w t s : Nat} (hL : L ≤ 12) (h : ∀ m, m < L → inIv (0, 60) (W (378 + 4 * m + 1))) : inIv (0, 720) (flowV W op bg en L w t s) := by
  unfold flowV
  split
  · exact iv_nI (n := 720) (by decide) (by decide)
  · exact sumV_iv hL h
theorem wedW_iv {W : Nat → Int32} {op bg en : Nat → Nat} {L w t : Nat} (hw : w < 8) (ht : t < 8) (hL : L ≤ 12) (h : ∀ m, m < L → inIv (0, 60) (W (378 + 4 * m + 1))) (hW : ∀ j, j < 377 → inIv (wbx j) (W j)) : ∀ j, j < 377 → inIv (wbx j) (wedW W op bg en L w t j) := by
  intro j hj
  have hS := wedS_iv (m := moreV W op bg en L w t) hw ht hW (fun s hs => by
    have a1 := hW (9 + 7 * w + s) (by omega)
    have a2 := hW (65 + 9 * t + s) (by omega)
    rw [wbx_w hw hs] at a1
    rw [wbx_t ht hs] at a2
    exact more_iv (flowV_iv (op := op) (bg := bg) (en := en) (w := w) (t := t) (s := s) hL h) a1 a2 _ rfl) 4 (Nat.le_refl _) j hj
  by_cases e5 : j = 9 + 7 * w + 5
  · rw [wbx_o (Or.inl ⟨w, hw, e5⟩)]; exact inIv_F _
  by_cases e6 : j = 65 + 9 * t + 6
  · rw [wbx_o (Or.inr ⟨t, ht, Or.inl e6⟩)]; exact inIv_F _
  by_cases e7 : j = 65 + 9 * t + 7
  · rw [wbx_o (Or.inr ⟨t, ht, Or.inr e7⟩)]; exact inIv_F _
  have hx : wedX W op bg en L w t j = wedS W (moreV W op bg en L w t) w t 4 j := by rw [wedX, upd_ne _ _ e6]
  have hy : wedY W op bg en L w t j = wedS W (moreV W op bg en L w t) w t 4 j := by
    rw [wedY]
    split
    · rw [upd_ne _ _ e7, hx]
    · exact hx
  rw [wedW, upd_ne _ _ e5, hy]
  exact hS
section ManW
variable {G : Gx} {X : Hi → Prop}
theorem man_weds (oX : okX X) (xm : ∀ I, X I → XM I) : CtOK G (hxM []) X mtL ct_m1 := by
  intro k I vs hB hX hA hF
  obtain ⟨t0, rfl, hA1⟩ := argM_r hA
  obtain ⟨w, t2, rfl, hw, hA2⟩ := argM_i hA1
  obtain ⟨t, t3, rfl, ht, hA3⟩ := argM_i hA2
  cases argM_n hA3
  obtain ⟨w, hw, rfl⟩ := nI_iv (n := 7) hw
  obtain ⟨t, ht, rfl⟩ := nI_iv (n := 7) ht
  have h3 := BX.w hB (p := 3) (by decide)
  obtain ⟨op, bg, en, L, hR, hL, hN⟩ := (xm _ hX).1.r h3
  have hc := ct_weds G k I op bg en L w t (by omega) (by omega) hR
  rw [Nat.add_comm] at hc
  refine hc.weak (fun o J h => ?_)
  obtain ⟨rfl, g, h, rfl⟩ := h
  have hW := wedW_iv (op := op) (bg := bg) (en := en) (show w < 8 by omega) (show t < 8 by omega) hL hN (fun j hj => BX.w hB hj)
  refine ⟨fun c j => ?_, ?_, fun c j hj hc => ?_, _, List.mem_singleton.mpr rfl, inIv_F _, fun e he => nomatch he⟩
  · by_cases e : c = 95
    · subst e
      rw [zset_at]
      by_cases hj : j < 377
      · show inIv (hxB 95 j) _
        unfold hxB
        rw [if_neg (by omega), if_neg (by omega), if_pos (by omega), if_pos hj]
        exact hW j hj
      · show inIv (hxB 95 j) _
        unfold hxB
        rw [if_neg (by omega), if_neg (by omega), if_pos (by omega), if_neg hj]
        exact inIv_F _
    · rw [zset_ne _ _ e]
      exact BX.triv (BX.triv hB (by decide) g) (by decide) h c j
  · refine oX I _ (fun c j hd => ?_) hX
    have hd := hxD_iff.mp hd
    by_cases e : c = 95
    · subst e
      rw [zset_at]
      exact wedW_out _ _ _ _ _ (fun s hs => by omega) (by omega) (by omega) (by omega)
    · rw [zset_ne _ _ e, zset_ne _ _ (by omega), zset_ne _ _ (by omega)]
  · have hc : ((decide (95 = c) && (Nat.ble 9 j && Nat.ble j 136)) || ((decide (102 = c) && (Nat.ble 0 j && Nat.ble j 4999)) || ((decide (103 = c) && (Nat.ble 0 j && Nat.ble j 4999)) || false))) = false := hc
    have hb : Nat.ble 0 j = true := Nat.ble_eq.mpr (Nat.zero_le j)
    have hb2 : Nat.ble j 4999 = true := Nat.ble_eq.mpr (by omega)
    rw [hb, hb2] at hc
    simp only [Bool.or_eq_false_iff, Bool.and_eq_false_iff, decide_eq_false_iff_not, Bool.true_eq_false, or_false] at hc
    obtain ⟨h95, h102, h103, -⟩ := hc
    rw [show zset (zset (zset I 102 g) 103 h) 95 (wedW (I 95) op bg en L w t) c j = if c = 95 then wedW (I 95) op bg en L w t j else I c j from by
      by_cases e : c = 95
      · subst e; rw [zset_at, if_pos rfl]
      · rw [zset_ne _ _ e, if_neg e, zset_ne _ _ (fun q => h103 q.symm), zset_ne _ _ (fun q => h102 q.symm)]]
    split
    · rename_i e
      subst e
      have hj2 : j < 9 ∨ 136 < j := by
        rcases h95 with h | h | h
        · exact absurd rfl h
        · left
          false_or_by_contra
          rw [Nat.ble_eq.mpr (by omega)] at h
          exact nomatch h
        · right
          false_or_by_contra
          rw [Nat.ble_eq.mpr (by omega)] at h
          exact nomatch h
      exact wedW_out _ _ _ _ _ (fun s hs => by omega) (by omega) (by omega) (by omega)
    · rfl
end ManW
