/-! frames of the world's functions -/
theorem upd_ne (f : Nat → Int32) {a j : Nat} (v : Int32) (h : j ≠ a) : upd f a v j = f j := by simp [upd, h]
theorem upd_at (f : Nat → Int32) (a : Nat) (v : Int32) : upd f a v a = v := by simp [upd]
theorem wedS_out (W m : Nat → Int32) {w t j : Nat} : ∀ n, (∀ s, s < n → j ≠ 9 + 7 * w + s ∧ j ≠ 65 + 9 * t + s) → wedS W m w t n j = W j := by
  intro n
  induction n with
  | zero => intro _; rfl
  | succ n ih =>
    intro h
    simp only [wedS]
    rw [upd_ne _ _ (h n (by omega)).2, upd_ne _ _ (h n (by omega)).1, ih (fun s hs => h s (by omega))]
theorem wedW_out (W : Nat → Int32) (op bg en : Nat → Nat) (L : Nat) {w t j : Nat} (h : ∀ s, s < 4 → j ≠ 9 + 7 * w + s ∧ j ≠ 65 + 9 * t + s) (h6 : j ≠ 65 + 9 * t + 6) (h7 : j ≠ 65 + 9 * t + 7) (h5 : j ≠ 9 + 7 * w + 5) : wedW W op bg en L w t j = W j := by
  have hx : wedX W op bg en L w t j = W j := by rw [wedX, upd_ne _ _ h6, wedS_out _ _ 4 h]
  have hy : wedY W op bg en L w t j = W j := by
    rw [wedY]
    split
    · rw [upd_ne _ _ h7, hx]
    · exact hx
  rw [wedW, upd_ne _ _ h5, hy]
theorem tellW_out (W : Nat → Int32) (w t : Nat) (n : Int32) {j : Nat} (h : j ≠ 7) (h2 : j < 137 ∨ 376 < j) : tellW W w t n j = W j := by
  rw [tellW, upd_ne _ _ h, upd_ne _ _ (by omega), upd_ne _ _ (by omega), upd_ne _ _ (by omega), upd_ne _ _ (by omega), shL, if_neg (by omega)]
theorem LawR_of {W W' : Nat → Int32} {op bg en : Nat → Nat} {L : Nat} (h3 : W' 3 = W 3) (hk : ∀ j, 377 ≤ j → W' j = W j) (h : LawR W op bg en L) : LawR W' op bg en L := by
  rcases h with h | ⟨h, h1, h2, h4⟩
  · exact Or.inl (by rw [h3]; exact h)
  · refine Or.inr ⟨by rw [h3]; exact h, h1, by rw [hk _ (by omega)]; exact h2, fun n hn => ?_⟩
    obtain ⟨a1, a2, a3, a4, a5, a6⟩ := h4 n hn
    exact ⟨by rw [hk _ (by omega)]; exact a1, by rw [hk _ (by omega)]; exact a2, a3, a4, a5, fun i hi => by rw [hk _ (by omega)]; exact a6 i hi⟩
theorem LawR_upd {W : Nat → Int32} {op bg en : Nat → Nat} {L a : Nat} {v : Int32} (h3 : a ≠ 3) (ha : a < 377) (h : LawR W op bg en L) : LawR (upd W a v) op bg en L :=
  LawR_of (upd_ne _ _ (by omega)) (fun j hj => upd_ne _ _ (by omega)) h
theorem LawR_wed {W : Nat → Int32} {op bg en : Nat → Nat} {L w t : Nat} (hw : w < 8) (ht : t < 8) (h : LawR W op bg en L) : LawR (wedW W op bg en L w t) op bg en L :=
  LawR_of (wedW_out _ _ _ _ _ (fun s hs => by omega) (by omega) (by omega) (by omega)) (fun j hj => wedW_out _ _ _ _ _ (fun s hs => by omega) (by omega) (by omega) (by omega)) h
theorem LawR_tell {W : Nat → Int32} {op bg en : Nat → Nat} {L w t : Nat} {n : Int32} (h : LawR W op bg en L) : LawR (tellW W w t n) op bg en L :=
  LawR_of (tellW_out _ _ _ _ (by omega) (by omega)) (fun j hj => tellW_out _ _ _ _ (by omega) (by omega)) h
/-- the counts, the owners and the holders are as they must be -/
def WI (W : Nat → Int32) (N T : Nat) : Prop := N ≤ 8 ∧ T ≤ 8 ∧ W 0 = nI N ∧ W 1 = nI T ∧ ∀ t, t < T → (W (65 + 9 * t + 5) = -1 ∨ ∃ q, q < N ∧ W (65 + 9 * t + 5) = nI q) ∧ ∃ q, q < N ∧ W (65 + 9 * t + 4) = nI q
theorem WI_of {W W' : Nat → Int32} {N T : Nat} (hk : ∀ j, (j = 0 ∨ j = 1 ∨ ∃ t, t < 8 ∧ (j = 65 + 9 * t + 4 ∨ j = 65 + 9 * t + 5)) → W' j = W j) (h : WI W N T) : WI W' N T := by
  obtain ⟨h1, h2, h3, h4, h5⟩ := h
  refine ⟨h1, h2, by rw [hk 0 (Or.inl rfl)]; exact h3, by rw [hk 1 (Or.inr (Or.inl rfl))]; exact h4, fun t ht => ?_⟩
  have e4 := hk (65 + 9 * t + 4) (Or.inr (Or.inr ⟨t, by omega, Or.inl rfl⟩))
  have e5 := hk (65 + 9 * t + 5) (Or.inr (Or.inr ⟨t, by omega, Or.inr rfl⟩))
  rw [e4, e5]
  exact h5 t ht
theorem WI_upd {W : Nat → Int32} {N T a : Nat} {v : Int32} (h0 : a ≠ 0) (h1 : a ≠ 1) (h2 : ∀ t, t < 8 → a ≠ 65 + 9 * t + 4 ∧ a ≠ 65 + 9 * t + 5) (h : WI W N T) : WI (upd W a v) N T :=
  WI_of (fun j hj => upd_ne _ _ (by rcases hj with rfl | rfl | ⟨t, ht, rfl | rfl⟩ <;> first | omega | exact fun q => (h2 t ht).1 q.symm | exact fun q => (h2 t ht).2 q.symm)) h
theorem WI_hold {W : Nat → Int32} {N T t w : Nat} (ht : t < T) (hw : w < N) (h : WI W N T) : WI (upd W (65 + 9 * t + 5) (nI w)) N T := by
  obtain ⟨h1, h2, h3, h4, h5⟩ := h
  refine ⟨h1, h2, by rw [upd_ne _ _ (by omega)]; exact h3, by rw [upd_ne _ _ (by omega)]; exact h4, fun u hu => ?_⟩
  rw [upd_ne W (a := 65 + 9 * t + 5) (j := 65 + 9 * u + 4) _ (by omega)]
  refine ⟨?_, (h5 u hu).2⟩
  by_cases e : u = t
  · subst e
    rw [upd_at]
    exact Or.inr ⟨w, hw, rfl⟩
  · rw [upd_ne _ _ (by omega)]
    exact (h5 u hu).1
theorem WI_wed {W : Nat → Int32} {N T : Nat} {op bg en : Nat → Nat} {L w t : Nat} (hw : w < 8) (ht : t < 8) (h : WI W N T) : WI (wedW W op bg en L w t) N T :=
  WI_of (fun j hj => wedW_out _ _ _ _ _ (fun s hs => by rcases hj with rfl | rfl | ⟨u, hu, rfl | rfl⟩ <;> omega) (by rcases hj with rfl | rfl | ⟨u, hu, rfl | rfl⟩ <;> omega) (by rcases hj with rfl | rfl | ⟨u, hu, rfl | rfl⟩ <;> omega) (by rcases hj with rfl | rfl | ⟨u, hu, rfl | rfl⟩ <;> omega)) h
theorem WI_tell {W : Nat → Int32} {N T w t : Nat} {n : Int32} (h : WI W N T) : WI (tellW W w t n) N T :=
  WI_of (fun j hj => tellW_out _ _ _ _ (by rcases hj with rfl | rfl | ⟨u, hu, rfl | rfl⟩ <;> omega) (by rcases hj with rfl | rfl | ⟨u, hu, rfl | rfl⟩ <;> omega)) h
/-! a day -/
def dayE (W : Nat → Int32) (w : Nat) : Nat → Int32 :=
  if nI (drawN (W 8) % 100) < W 6 then upd (upd W 8 (nseed (W 8))) (9 + 7 * w + 0) (imin (nI 99) (upd W 8 (nseed (W 8)) (9 + 7 * w + 0) + nI 1)) else upd W 8 (nseed (W 8))
def dayF (W : Nat → Int32) : Nat → Int32 := upd W 4 (imin (nI 9999) (W 4 + nI 1))
def day2 (W : Nat → Int32) : Nat → Int32 := upd (upd W 8 (nseed (W 8))) 8 (nseed (upd W 8 (nseed (W 8)) 8))
def dayw (W : Nat → Int32) (N : Nat) : Nat := drawN (W 8) % N
def dayt (W : Nat → Int32) (T : Nat) : Nat := drawN (upd W 8 (nseed (W 8)) 8) % T
def dayH (W : Nat → Int32) (w t : Nat) : Nat → Int32 := upd W (65 + 9 * t + 5) (nI w)
def dayM (W : Nat → Int32) (op bg en : Nat → Nat) (L w t : Nat) : Nat → Int32 := if comesP W t w then tellW (wedW (dayH W w t) op bg en L w t) w t (gainV (dayH W w t) op bg en L w t) else W
def dayW (W : Nat → Int32) (op bg en : Nat → Nat) (L N T : Nat) : Nat → Int32 := if N = 0 ∨ T = 0 then dayF W else dayF (dayE (dayM (day2 W) op bg en L (dayw W N) (dayt W T)) (dayw W N))
def dayR (W : Nat → Int32) (N T : Nat) : Int32 := if N = 0 ∨ T = 0 then nI 0 else if comesP (day2 W) (dayt W T) (dayw W N) then nI 1 else nI 0
section RefG
variable (G : Gx) (d : Nat) (I : Hi) (op bg en : Nat → Nat) (L : Nat)
theorem ct_drawnN (n : Nat) (h0 : 0 < n) (hn : n < 2147483648) : Ct G GAM mX10_drawn d 0 [.ref 94, .int (nI n)] I (Rp (some (.int (nI (drawN (I 95 8) % n)))) (zup I 95 8 (nseed (I 95 8)))) := by
  have h := ct_drawn G d I (nI n) (fun q => by rw [nI_z hn] at q; omega)
  have hlt := drawN_lt (I 95 8)
  rw [ndraw_N, pk_rem (by omega) h0 (by omega)] at h
  exact h
theorem day_last (V g h : Nat → Int32) (x : Int32) (x2 x3 : Option Value) : Rn G GAM mX10_oneDay (kM G GAM (Rw (some (.int x)) I (dayF V))) d 0 107 [some (.ref 94), some (.int x), x2, x3] [] (zW I g h V) := by
  refine Rn.aload_n dX10_oneDay_107 rfl rfl ?_
  refine Rn.getR dX10_oneDay_108 fd_X10_13_9 (by first | rfl | exact gC0 (by assumption) | exact gL0 (by assumption)) rfl ?_
  refine Rn.iconst (v := (nI 4)) dX10_oneDay_111 rfl ?_
  refine Rn.sipush (v := (nI 9999)) dX10_oneDay_112 rfl ?_
  refine Rn.aload_n dX10_oneDay_115 rfl rfl ?_
  refine Rn.getR dX10_oneDay_116 fd_X10_13_9 (by first | rfl | exact gC0 (by assumption) | exact gL0 (by assumption)) rfl ?_
  refine Rn.iconst (v := (nI 4)) dX10_oneDay_119 rfl ?_
  refine Rn.ialdN dX10_oneDay_120 (by first | rfl | exact gC1 (by assumption) | exact gC2 (by assumption) | exact gC3 (by assumption) | exact gL1 (by assumption) | exact gL2 (by assumption) | exact gL3 (by assumption) | exact gL4 (by assumption) | exact gL5 (by assumption) | exact gL6 (by assumption)) ?_
  refine Rn.iconst (v := (nI 1)) dX10_oneDay_121 rfl ?_
  refine Rn.iadd dX10_oneDay_122 ?_
  refine Rn.mmin dX10_oneDay_123 ms_X10_266 (Nat.le_of_ble_eq_true rfl) ?_
  refine Rn.iastN dX10_oneDay_126 (by first | rfl | exact gC1 (by assumption) | exact gC2 (by assumption) | exact gC3 (by assumption) | exact gL1 (by assumption) | exact gL2 (by assumption) | exact gL3 (by assumption) | exact gL4 (by assumption) | exact gL5 (by assumption) | exact gL6 (by assumption)) ?_
  refine Rn.iload_n dX10_oneDay_127 rfl rfl ?_
  refine Rn.iret dX10_oneDay_128 rfl ⟨rfl, g, h, ?_⟩
  rw [zW_up]
  rfl
theorem day_tail (V g h : Nat → Int32) (x : Int32) (w : Nat) (x3 : Option Value) (hw : w < 8) : Rn G GAM mX10_oneDay (kM G GAM (Rw (some (.int x)) I (dayF (dayE V w)))) (d + 2) 0 68 [some (.ref 94), some (.int x), some (.int (nI w)), x3] [] (zW I g h V) := by
  refine Rn.aload_n dX10_oneDay_68 rfl rfl ?_
  refine Rn.bipush (v := (nI 100)) dX10_oneDay_69 rfl ?_
  refine Rn.callVp (As := [_]) dX10_oneDay_71 mv_X10_314 (by first | rfl | exact gC0 (by assumption) | exact gL0 (by assumption)) rfl rfl rfl (Nat.le_of_ble_eq_true rfl) (ct_drawnN G _ _ _ (by omega) (by omega)) ?_
  refine Rn.hpp _ (zW_up _ _ _ _ _ _) ?_
  refine Rn.aload_n dX10_oneDay_74 rfl rfl ?_
  refine Rn.getR dX10_oneDay_75 fd_X10_13_9 (by first | rfl | exact gC0 (by assumption) | exact gL0 (by assumption)) rfl ?_
  refine Rn.bipush (v := (nI 6)) dX10_oneDay_78 rfl ?_
  refine Rn.ialdN dX10_oneDay_80 (by first | rfl | exact gC1 (by assumption) | exact gC2 (by assumption) | exact gC3 (by assumption) | exact gL1 (by assumption) | exact gL2 (by assumption) | exact gL3 (by assumption) | exact gL4 (by assumption) | exact gL5 (by assumption) | exact gL6 (by assumption)) ?_
  refine Rn.icmp_ge (tgt := 107) dX10_oneDay_81 (by decide) (fun h1 => ?_) (fun h1 => ?_)
  · have h1 : ¬ nI (drawN (V 8) % 100) < V 6 := Int32.not_lt.mpr h1
    rw [show dayE V w = upd V 8 (nseed (V 8)) from if_neg h1]
    exact day_last G _ I _ g h x _ _
  · have h1 : nI (drawN (V 8) % 100) < V 6 := Int32.not_le.mp h1
    rw [show dayE V w = upd (upd V 8 (nseed (V 8))) (9 + 7 * w + 0) (imin (nI 99) (upd V 8 (nseed (V 8)) (9 + 7 * w + 0) + nI 1)) from if_pos h1]
    refine Rn.aload_n dX10_oneDay_84 rfl rfl ?_
    refine Rn.getR dX10_oneDay_85 fd_X10_13_9 (by first | rfl | exact gC0 (by assumption) | exact gL0 (by assumption)) rfl ?_
    refine Rn.iload_n dX10_oneDay_88 rfl rfl ?_
    refine Rn.iconst (v := (nI 0)) dX10_oneDay_89 rfl ?_
    refine Rn.callSp (As := [_, _]) dX10_oneDay_90 ms_X10_61 rfl rfl (Nat.le_of_ble_eq_true rfl) (ct_womanAt G _ _ _ _) ?_
    refine Rn.bipush (v := (nI 99)) dX10_oneDay_93 rfl ?_
    refine Rn.aload_n dX10_oneDay_95 rfl rfl ?_
    refine Rn.iload_n dX10_oneDay_96 rfl rfl ?_
    refine Rn.iconst (v := (nI 0)) dX10_oneDay_97 rfl ?_
    refine Rn.callVp (As := [_, _]) dX10_oneDay_98 mv_X10_65 (by first | rfl | exact gC0 (by assumption) | exact gL0 (by assumption)) rfl rfl rfl (Nat.le_of_ble_eq_true rfl) (ct_of G _ _ _ _ (by omega)) ?_
    refine Rn.iconst (v := (nI 1)) dX10_oneDay_101 rfl ?_
    refine Rn.iadd dX10_oneDay_102 ?_
    refine Rn.mmin dX10_oneDay_103 ms_X10_266 (Nat.le_of_ble_eq_true rfl) ?_
    refine Rn.iastN dX10_oneDay_106 (by first | rfl | exact gC1 (by assumption) | exact gC2 (by assumption) | exact gC3 (by assumption) | exact gL1 (by assumption) | exact gL2 (by assumption) | exact gL3 (by assumption) | exact gL4 (by assumption) | exact gL5 (by assumption) | exact gL6 (by assumption)) ?_
    refine Rn.hpp _ (zW_up _ _ _ _ _ _) ?_
    exact day_last G _ I _ g h x _ _
theorem ct_oneDay (N T : Nat) (hWI : WI (I 95) N T) (hR : LawR (I 95) op bg en L) : Ct G GAM mX10_oneDay (d + 8) 0 [.ref 94] I (Rw (some (.int (dayR (I 95) N T))) I (dayW (I 95) op bg en L N T)) := by
  obtain ⟨hN8, hT8, hN, hT, hth⟩ := id hWI
  refine Ct.mk [some (.ref 94), none, none, none] ?_
  refine Rn.hpp _ (zW_self I).symm ?_
  refine Rn.iconst (v := (nI 0)) dX10_oneDay_0 rfl ?_
  refine Rn.istore_n dX10_oneDay_1 rfl (by decide) ?_
  refine Rn.aload_n dX10_oneDay_2 rfl rfl ?_
  refine Rn.callVp (As := []) dX10_oneDay_3 mv_X10_74 (by first | rfl | exact gC0 (by assumption) | exact gL0 (by assumption)) rfl rfl rfl (Nat.le_of_ble_eq_true rfl) (ct_women G _ _) ?_
  refine Rn.topI (nI N) (by exact hN) ?_
  refine Rn.if_leN dX10_oneDay_6 107 (fun h1 => ?_) (fun h1 => ?_)
  · rw [show dayW (I 95) op bg en L N T = dayF (I 95) from if_pos (Or.inl h1), show dayR (I 95) N T = nI 0 from if_pos (Or.inl h1)]
    exact day_last G _ I _ _ _ _ _ _
  · refine Rn.aload_n dX10_oneDay_9 rfl rfl ?_
    refine Rn.callVp (As := []) dX10_oneDay_10 mv_X10_82 (by first | rfl | exact gC0 (by assumption) | exact gL0 (by assumption)) rfl rfl rfl (Nat.le_of_ble_eq_true rfl) (ct_things G _ _) ?_
    refine Rn.topI (nI T) (by exact hT) ?_
    refine Rn.if_leN dX10_oneDay_13 107 (fun h2 => ?_) (fun h2 => ?_)
    · rw [show dayW (I 95) op bg en L N T = dayF (I 95) from if_pos (Or.inr h2), show dayR (I 95) N T = nI 0 from if_pos (Or.inr h2)]
      exact day_last G _ I _ _ _ _ _ _
    · have hno : ¬ (N = 0 ∨ T = 0) := by omega
      rw [show dayW (I 95) op bg en L N T = _ from if_neg hno, show dayR (I 95) N T = _ from if_neg hno]
      have hw : dayw (I 95) N < N := Nat.mod_lt _ (by omega)
      have ht : dayt (I 95) T < T := Nat.mod_lt _ (by omega)
      have hWI2 : WI (day2 (I 95)) N T := WI_upd (by omega) (by omega) (fun t ht => by omega) (WI_upd (by omega) (by omega) (fun t ht => by omega) hWI)
      have hR2 : LawR (day2 (I 95)) op bg en L := LawR_upd (by omega) (by omega) (LawR_upd (by omega) (by omega) hR)
      refine Rn.aload_n dX10_oneDay_16 rfl rfl ?_
      refine Rn.aload_n dX10_oneDay_17 rfl rfl ?_
      refine Rn.callVp (As := []) dX10_oneDay_18 mv_X10_74 (by first | rfl | exact gC0 (by assumption) | exact gL0 (by assumption)) rfl rfl rfl (Nat.le_of_ble_eq_true rfl) (ct_women G _ _) ?_
      refine Rn.topI (nI N) (by exact hN) ?_
      refine Rn.callVp (As := [_]) dX10_oneDay_21 mv_X10_314 (by first | rfl | exact gC0 (by assumption) | exact gL0 (by assumption)) rfl rfl rfl (Nat.le_of_ble_eq_true rfl) (ct_drawnN G _ _ _ (by omega) (by omega)) ?_
      refine Rn.hpp _ (zW_up _ _ _ _ _ _) ?_
      refine Rn.istore_n dX10_oneDay_24 rfl (by decide) ?_
      refine Rn.aload_n dX10_oneDay_25 rfl rfl ?_
      refine Rn.aload_n dX10_oneDay_26 rfl rfl ?_
      refine Rn.callVp (As := []) dX10_oneDay_27 mv_X10_82 (by first | rfl | exact gC0 (by assumption) | exact gL0 (by assumption)) rfl rfl rfl (Nat.le_of_ble_eq_true rfl) (ct_things G _ _) ?_
      refine Rn.topI (nI T) (by exact hT) ?_
      refine Rn.callVp (As := [_]) dX10_oneDay_30 mv_X10_314 (by first | rfl | exact gC0 (by assumption) | exact gL0 (by assumption)) rfl rfl rfl (Nat.le_of_ble_eq_true rfl) (ct_drawnN G _ _ _ (by omega) (by omega)) ?_
      refine Rn.hpp _ (zW_up _ _ _ _ _ _) ?_
      show Rn G GAM mX10_oneDay _ _ _ 33 [some (.ref 94), some (.int (nI 0)), some (.int (nI (dayw (I 95) N))), none] [.int (nI (dayt (I 95) T))] (zW I (I 102) (I 103) (day2 (I 95)))
      generalize dayw (I 95) N = w at hw ⊢
      generalize dayt (I 95) T = t at ht ⊢
      generalize day2 (I 95) = V at hWI2 hR2 ⊢
      have hhold : V (65 + 9 * t + 5) = -1 ∨ ∃ q, q < 8 ∧ V (65 + 9 * t + 5) = nI q := ((hWI2.2.2.2.2 t ht).1).imp_right (fun ⟨q, h3, h4⟩ => ⟨q, by omega, h4⟩)
      refine Rn.istore_n dX10_oneDay_33 rfl (by decide) ?_
      refine Rn.aload_n dX10_oneDay_34 rfl rfl ?_
      refine Rn.iload_n dX10_oneDay_35 rfl rfl ?_
      refine Rn.iload_n dX10_oneDay_36 rfl rfl ?_
      refine Rn.callVp (As := [_, _]) dX10_oneDay_37 mv_X10_317 (by first | rfl | exact gC0 (by assumption) | exact gL0 (by assumption)) rfl rfl rfl (Nat.le_of_ble_eq_true rfl) (ct_comesTo G _ _ _ _ (by omega) hhold) ?_
      refine Rn.if_eqB dX10_oneDay_40 68 (fun h3 => ?_) (fun h3 => ?_)
      · rw [show dayM V op bg en L w t = V from if_neg h3, show (if comesP V t w then nI 1 else nI 0) = nI 0 from if_neg h3]
        exact day_tail G _ I V _ _ _ w _ (by omega)
      · rw [show dayM V op bg en L w t = _ from if_pos h3, show (if comesP V t w then nI 1 else nI 0) = nI 1 from if_pos h3]
        refine Rn.aload_n dX10_oneDay_43 rfl rfl ?_
        refine Rn.getR dX10_oneDay_44 fd_X10_13_9 (by first | rfl | exact gC0 (by assumption) | exact gL0 (by assumption)) rfl ?_
        refine Rn.iload_n dX10_oneDay_47 rfl rfl ?_
        refine Rn.iconst (v := (nI 5)) dX10_oneDay_48 rfl ?_
        refine Rn.callSp (As := [_, _]) dX10_oneDay_49 ms_X10_68 rfl rfl (Nat.le_of_ble_eq_true rfl) (ct_thingAt G _ _ _ _) ?_
        refine Rn.iload_n dX10_oneDay_52 rfl rfl ?_
        refine Rn.iastN dX10_oneDay_53 (by first | rfl | exact gC1 (by assumption) | exact gC2 (by assumption) | exact gC3 (by assumption) | exact gL1 (by assumption) | exact gL2 (by assumption) | exact gL3 (by assumption) | exact gL4 (by assumption) | exact gL5 (by assumption) | exact gL6 (by assumption)) ?_
        refine Rn.hpp (zW I (I 102) (I 103) (dayH V w t)) (zW_up _ _ _ _ _ _) ?_
        have hlaw : LawR (dayH V w t) op bg en L := LawR_upd (by omega) (by omega) hR2
        refine Rn.aload_n dX10_oneDay_54 rfl rfl ?_
        refine Rn.iload_n dX10_oneDay_55 rfl rfl ?_
        refine Rn.iload_n dX10_oneDay_56 rfl rfl ?_
        refine Rn.aload_n dX10_oneDay_57 rfl rfl ?_
        refine Rn.iload_n dX10_oneDay_58 rfl rfl ?_
        refine Rn.iload_n dX10_oneDay_59 rfl rfl ?_
        refine Rn.callVw (As := [_, _]) dX10_oneDay_60 mv_X10_320 (by first | rfl | exact gC0 (by assumption) | exact gL0 (by assumption)) rfl rfl rfl (Nat.le_of_ble_eq_true rfl) (ct_weds G _ _ op bg en L _ _ (by omega) (by omega) hlaw) (fun g h => ?_)
        refine Rn.callVp (As := [_, _, _]) dX10_oneDay_63 mv_X10_323 (by first | rfl | exact gC0 (by assumption) | exact gL0 (by assumption)) rfl rfl rfl (Nat.le_of_ble_eq_true rfl) (ct_tells G _ _ _ _ _) ?_
        refine Rn.hpp (zW I g h (tellW (wedW (dayH V w t) op bg en L w t) w t (gainV (dayH V w t) op bg en L w t))) (zset_zset _ _ _ _) ?_
        refine Rn.iconst (v := (nI 1)) dX10_oneDay_66 rfl ?_
        refine Rn.istore_n dX10_oneDay_67 rfl (by decide) ?_
        exact day_tail G _ I _ g h _ w _ (by omega)
end RefG
