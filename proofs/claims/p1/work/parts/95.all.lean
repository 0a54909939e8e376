theorem dL_law__40 : decode cL_law_ 40 = .ok (.tableswitch 2680 0 48 #[212, 285, 310, 354, 398, 411, 479, 547, 615, 695, 763, 831, 887, 943, 999, 1090, 1146, 1202, 1282, 1350, 1442, 1498, 1566, 1610, 1654, 1722, 1802, 1858, 1871, 1884, 1940, 2003, 2071, 2127, 2140, 2153, 2166, 2179, 2192, 2260, 2273, 2357, 2441, 2525, 2593, 2618, 2631, 2642, 2655], 212) := by decide +kernel
theorem FM_0 : FM I0 := fun c _ _ => rfl
theorem lt4 (x : Int32) : x < nI 4 ↔ x ≤ nI 3 := by
  rw [Int32.lt_iff_toInt_lt, Int32.le_iff_toInt_le, nI_toInt (by decide), nI_toInt (by decide)]; omega
theorem rmx {v : Int32} {J K : Hi} {o : Rs} (h : Rp (some (.int v)) (zup J 94 0 (nI 0)) o K) : RM v (nI 0) (J 107) o K := ⟨h.1, by rw [h.2]; rfl, by rw [h.2, zup_ne _ _ (by decide)]⟩
theorem rmu {v : Int32} {J K : Hi} {o : Rs} (h : Rp (some (.int v)) (usJ J) o K) : RM v (nI 0) (J 107) o K := ⟨h.1, by rw [h.2]; rfl, by rw [h.2]; unfold usJ; rw [zup_ne _ _ (by decide), zup_ne _ _ (by decide), zup_ne _ _ (by decide), zup_ne _ _ (by decide)]⟩
theorem rcx {v : Int32} {K : Hi} {o : Rs} (h : Rp (some (.int v)) I0 o K) : RC v o K := ⟨h.1, fun c _ => by rw [h.2]⟩
theorem rct {v : Int32} {K : Hi} {o : Rs} (h : Rp (some (.int v)) (zup I0 1 1 (nI 0)) o K) : RC v o K := ⟨h.1, fun c hc => by rw [h.2, zup_ne _ _ (by omega)]⟩
theorem rpx {v : Int32} {K : Hi} {o : Rs} (h : Rp (some (.int v)) I0 o K) : o = .inl (some (.int v)) ∧ FM K := ⟨h.1, by rw [h.2]; exact FM_0⟩
section LawAll
variable {G0 : Gx} {b0 : Nat} {xs : Nat → Int32}
theorem la_unlucky (h9 : gad G0 998 = b0) (ad : Nat → Nat) : Rn (gw G0 ad) GAM mL_law_ (kZ (kL b0 6 xs) G0 0 ad 108) 20 400000 1911 [some (.ref 998), some (.ref 0), some (.ref 94), some (.ref 107), some (.int (nI 0)), none, none] [] I0 := by
  exact lcp_unlucky h9 ad (-1) ((ct_X9_unlucky _ 19 I0 FC_0).weak (fun _ _ h => rpx h)) (fun J hJ => (ct_X10_unlucky _ 17 J hJ.fw).weak (fun _ _ h => h.1))
theorem la_oldest (h9 : gad G0 998 = b0) (ad : Nat → Nat) : Rn (gw G0 ad) GAM mL_law_ (kZ (kL b0 6 xs) G0 0 ad 108) 20 400000 2167 [some (.ref 998), some (.ref 0), some (.ref 94), some (.ref 107), some (.int (nI 0)), none, none] [] I0 := by
  exact lcp_oldest h9 ad (-1) ((ct_X9_oldest _ 19 I0 FC_0).weak (fun _ _ h => rpx h)) (fun J hJ => (ct_X10_oldest _ 17 J hJ.fw).weak (fun _ _ h => h.1))
theorem la_stuck (h9 : gad G0 998 = b0) (ad : Nat → Nat) : Rn (gw G0 ad) GAM mL_law_ (kZ (kL b0 6 xs) G0 0 ad 108) 20 400000 2180 [some (.ref 998), some (.ref 0), some (.ref 94), some (.ref 107), some (.int (nI 0)), none, none] [] I0 := by
  exact lcp_stuck h9 ad (nI 0) ((ct_X9_stuck _ 18 I0 FC_0).weak (fun _ _ h => rpx h)) (fun J hJ => (ct_X10_stuck _ 17 J hJ.fw).weak (fun _ _ h => h.1))
theorem la_pawned (h9 : gad G0 998 = b0) (ad : Nat → Nat) : Rn (gw G0 ad) GAM mL_law_ (kZ (kL b0 6 xs) G0 0 ad 108) 20 400000 2193 [some (.ref 998), some (.ref 0), some (.ref 94), some (.ref 107), some (.int (nI 0)), none, none] [] I0 := by
  exact lcp_pawned h9 ad (nI 0) ((ct_X9_pawned _ 18 I0 FC_0).weak (fun _ _ h => rpx h)) (fun J hJ => (ct_X10_pawned _ 17 J hJ.fw).weak (fun _ _ h => h.1))
theorem la_blue (h9 : gad G0 998 = b0) (ad : Nat → Nat) : Rn (gw G0 ad) GAM mL_law_ (kZ (kL b0 6 xs) G0 0 ad 108) 20 400000 2206 [some (.ref 998), some (.ref 0), some (.ref 94), some (.ref 107), some (.int (nI 0)), none, none] [] I0 := by
  exact lcp_blue h9 ad (nI 0) ((ct_X9_blue _ 18 I0 FC_0).weak (fun _ _ h => rpx h)) (fun J hJ => (ct_X10_blue _ 17 J hJ.fw).weak (fun _ _ h => h.1))
theorem la_alike (h9 : gad G0 998 = b0) (ad : Nat → Nat) : Rn (gw G0 ad) GAM mL_law_ (kZ (kL b0 6 xs) G0 0 ad 108) 20 400000 2219 [some (.ref 998), some (.ref 0), some (.ref 94), some (.ref 107), some (.int (nI 0)), none, none] [] I0 := by
  exact lcp_alike h9 ad (nI 0) ((ct_X9_alike _ 19 I0 FC_0).weak (fun _ _ h => rpx h)) (fun J hJ => (ct_X10_alike _ 17 J hJ.fw).weak (fun _ _ h => h.1))
theorem la_odds (h9 : gad G0 998 = b0) (ad : Nat → Nat) : Rn (gw G0 ad) GAM mL_law_ (kZ (kL b0 6 xs) G0 0 ad 108) 20 400000 2300 [some (.ref 998), some (.ref 0), some (.ref 94), some (.ref 107), some (.int (nI 0)), none, none] [] I0 := by
  exact lcp_odds h9 ad (nI 0) ((ct_X9_odds _ 19 I0 FC_0).weak (fun _ _ h => rpx h)) (fun J hJ => (ct_X10_odds _ 17 J hJ.fw).weak (fun _ _ h => h.1))
theorem la_dearest (h9 : gad G0 998 = b0) (ad : Nat → Nat) : Rn (gw G0 ad) GAM mL_law_ (kZ (kL b0 6 xs) G0 0 ad 108) 20 400000 1898 [some (.ref 998), some (.ref 0), some (.ref 94), some (.ref 107), some (.int (nI 0)), none, none] [] I0 := by
  exact lcp_dearest h9 ad (nI 0) ((ct_X9_dearest _ 18 I0 FC_0).weak (fun _ _ h => rpx h)) (fun J hJ => (ct_X10_dearest _ 17 J hJ.fw).weak (fun _ _ h => h.1))
theorem la_undo (h9 : gad G0 998 = b0) (ad : Nat → Nat) : Rn (gw G0 ad) GAM mL_law_ (kZ (kL b0 6 xs) G0 0 ad 108) 20 400000 2658 [some (.ref 998), some (.ref 0), some (.ref 94), some (.ref 107), some (.int (nI 0)), none, none] [] I0 := by
  exact lcp_undo h9 ad (nI 0) ((ct_X9_undo _ 18 I0 FC_0).weak (fun _ _ h => rpx h)) (fun J hJ => (ct_X10_undo _ 19 J hJ.fw).weak (fun _ _ h => h.1))
theorem la_fault (h9 : gad G0 998 = b0) (ad : Nat → Nat) : Rn (gw G0 ad) GAM mL_law_ (kZ (kL b0 6 xs) G0 0 ad 108) 20 400000 438 [some (.ref 998), some (.ref 0), some (.ref 94), some (.ref 107), some (.int (nI 0)), none, none] [] I0 := by
  refine lcp_fault h9 ad (-1) ((ct_X9_fault _ 19 I0 FC_0).weak (fun _ _ h => rpx h)) (fun J hJ => (ct_fault _ 19 J).weak (fun _ _ h => ?_))
  have g : J 94 14 = -1 := hJ.fw.2.2.2.2.2.2.2.2.2.2.2.2
  have h1 := h.1
  rw [g] at h1
  exact h1
theorem la_seed (h9 : gad G0 998 = b0) (ad : Nat → Nat) : Rn (gw G0 ad) GAM mL_law_ (kZ (kL b0 6 xs) G0 0 ad 108) 20 400000 2633 [some (.ref 998), some (.ref 0), some (.ref 94), some (.ref 107), some (.int (nI 0)), none, none] [] I0 := by
  exact lcp_seed h9 ad (nI 1) ((ct_X9_seed _ 19 I0 FC_0 _).weak (fun _ _ h => ⟨h.1, fun c h1 h2 => by rw [h.2, zup_ne _ _ (by omega)]⟩)) (fun J hJ => (ct_X10_seed _ 19 J hJ.fw _).weak (fun _ _ h => h.1))
theorem la_back (h9 : gad G0 998 = b0) (ad : Nat → Nat) : Rn (gw G0 ad) GAM mL_law_ (kZ (kL b0 6 xs) G0 0 ad 108) 20 400000 2682 [some (.ref 998), some (.ref 0), some (.ref 94), some (.ref 107), some (.int (nI 0)), none, none] [] I0 := by
  refine lcp_back h9 ad (nI 0) ((ct_X9_back _ 19 I0 FC_0).weak (fun _ _ h => rpx h)) (fun J hJ => ?_)
  have g : J 94 6 = nI 0 := hJ.fw.2.2.2.2.2.2.2.2.2.1
  refine (ct_back _ 19 J (Or.inl g)).weak (fun _ _ h => ?_)
  have h1 := h.1
  rw [g] at h1
  exact h1
theorem la_image (h9 : gad G0 998 = b0) (ad : Nat → Nat) : Rn (gw G0 ad) GAM mL_law_ (kZ (kL b0 6 xs) G0 0 ad 108) 20 400000 2671 [some (.ref 998), some (.ref 0), some (.ref 94), some (.ref 107), some (.int (nI 0)), none, none] [] I0 := by
  exact lcp_image h9 ad ((ct_X9_image _ 18 I0).weak (fun _ _ h => ⟨h.1, fun c h1 h2 => by rw [h.2, zup_ne _ _ (by omega), cpL_ne _ (by omega), cpC_ne _ (by omega)]⟩)) (fun J hJ => (ct_image _ 19 J).weak (fun _ _ h => h.1))
theorem la_feed (h9 : gad G0 998 = b0) (ad : Nat → Nat) : Rn (gw G0 ad) GAM mL_law_ (kZ (kL b0 6 xs) G0 0 ad 108) 20 400000 252 [some (.ref 998), some (.ref 0), some (.ref 94), some (.ref 107), some (.int (nI 0)), none, none] [] I0 := by
  exact lcp_feed h9 ad (nI 20) ((ct_X9_feed _ 18 I0 FC_0 _ _ _ _ _).weak (fun _ _ h => ⟨h.1, fun c h1 h2 => h.2 c (by omega)⟩)) (fun J hJ => ct_X10_feed _ 19 J hJ.fw _ _ _ _ _)
theorem la_end (h9 : gad G0 998 = b0) (ad : Nat → Nat) : Rn (gw G0 ad) GAM mL_law_ (kZ (kL b0 6 xs) G0 0 ad 108) 20 400000 325 [some (.ref 998), some (.ref 0), some (.ref 94), some (.ref 107), some (.int (nI 0)), none, none] [] I0 := by
  refine lcp_end h9 ad (bI (¬ xs 1 < 0 ∧ xs 1 ≤ nI 0)) ((ct_X9_end _ 19 I0 FC_0 _).weak (fun _ _ h => ⟨h.1, fun c h1 h2 => ?_⟩)) (fun J hJ => (ct_end _ 19 J _).weak (fun _ _ h => ?_))
  · rcases h.2 with e | e
    · rw [e]
    · rw [e, zup_ne _ _ (by omega)]
  · have g : J 94 9 = nI 0 := hJ.fw.2.2.2.2.2.2.2.2.2.2.2.1
    have h1 := h.1
    rw [g] at h1
    exact h1
theorem la_count (h9 : gad G0 998 = b0) (ad : Nat → Nat) : Rn (gw G0 ad) GAM mL_law_ (kZ (kL b0 6 xs) G0 0 ad 108) 20 400000 2695 [some (.ref 998), some (.ref 0), some (.ref 94), some (.ref 107), some (.int (nI 0)), none, none] [] I0 := by
  by_cases h : (xs 1).toInt < 0 ∨ 11 < (xs 1).toInt
  · exact lcp_count h9 ad (-1) ((ct_X9_count_o _ 18 I0 _ h).weak (fun _ _ h => rpx h)) (fun J hJ => (ct_X10_count_o _ 15 J hJ.fw _ h).weak (fun _ _ h => h.1))
  · have hp : ¬ xs 1 < 0 := fun q => h (Or.inl (by have := Int32.lt_iff_toInt_lt.mp q; rw [Int32.toInt_zero] at this; exact this))
    obtain ⟨k, hk, e⟩ := nI_of hp
    have hk2 : k < 12 := by
      rw [e, nI_toInt hk] at h
      omega
    match k, hk2, e with
    | 0, _, e => exact lcp_count h9 ad (cntV 0) (by rw [e]; exact (ct_X9_count_0 _ 18 I0 FC_0).weak (fun _ _ h => rpx h)) (fun J hJ => by rw [e]; exact (ct_X10_count_0 _ 15 J hJ.fw).weak (fun _ _ h => h.1))
    | 1, _, e => exact lcp_count h9 ad (cntV 1) (by rw [e]; exact (ct_X9_count_1 _ 18 I0 FC_0).weak (fun _ _ h => rpx h)) (fun J hJ => by rw [e]; exact (ct_X10_count_1 _ 15 J hJ.fw).weak (fun _ _ h => h.1))
    | 2, _, e => exact lcp_count h9 ad (cntV 2) (by rw [e]; exact (ct_X9_count_2 _ 18 I0 FC_0).weak (fun _ _ h => rpx h)) (fun J hJ => by rw [e]; exact (ct_X10_count_2 _ 15 J hJ.fw).weak (fun _ _ h => h.1))
    | 3, _, e => exact lcp_count h9 ad (cntV 3) (by rw [e]; exact (ct_X9_count_3 _ 18 I0 FC_0).weak (fun _ _ h => rpx h)) (fun J hJ => by rw [e]; exact (ct_X10_count_3 _ 15 J hJ.fw).weak (fun _ _ h => h.1))
    | 4, _, e => exact lcp_count h9 ad (cntV 4) (by rw [e]; exact (ct_X9_count_4 _ 18 I0 FC_0).weak (fun _ _ h => rpx h)) (fun J hJ => by rw [e]; exact (ct_X10_count_4 _ 15 J hJ.fw).weak (fun _ _ h => h.1))
    | 5, _, e => exact lcp_count h9 ad (cntV 5) (by rw [e]; exact (ct_X9_count_5 _ 18 I0 FC_0).weak (fun _ _ h => rpx h)) (fun J hJ => by rw [e]; exact (ct_X10_count_5 _ 15 J hJ.fw).weak (fun _ _ h => h.1))
    | 6, _, e => exact lcp_count h9 ad (cntV 6) (by rw [e]; exact (ct_X9_count_6 _ 18 I0 FC_0).weak (fun _ _ h => rpx h)) (fun J hJ => by rw [e]; exact (ct_X10_count_6 _ 15 J hJ.fw).weak (fun _ _ h => h.1))
    | 7, _, e => exact lcp_count h9 ad (cntV 7) (by rw [e]; exact (ct_X9_count_7 _ 18 I0 FC_0).weak (fun _ _ h => rpx h)) (fun J hJ => by rw [e]; exact (ct_X10_count_7 _ 15 J hJ.fw).weak (fun _ _ h => h.1))
    | 8, _, e => exact lcp_count h9 ad (cntV 8) (by rw [e]; exact (ct_X9_count_8 _ 18 I0 FC_0).weak (fun _ _ h => rpx h)) (fun J hJ => by rw [e]; exact (ct_X10_count_8 _ 15 J hJ.fw).weak (fun _ _ h => h.1))
    | 9, _, e => exact lcp_count h9 ad (cntV 9) (by rw [e]; exact (ct_X9_count_9 _ 18 I0 FC_0).weak (fun _ _ h => rpx h)) (fun J hJ => by rw [e]; exact (ct_X10_count_9 _ 15 J hJ.fw).weak (fun _ _ h => h.1))
    | 10, _, e => exact lcp_count h9 ad (cntV 10) (by rw [e]; exact (ct_X9_count_10 _ 18 I0 FC_0).weak (fun _ _ h => rpx h)) (fun J hJ => by rw [e]; exact (ct_X10_count_10 _ 15 J hJ.fw).weak (fun _ _ h => h.1))
    | 11, _, e => exact lcp_count h9 ad (cntV 11) (by rw [e]; exact (ct_X9_count_11 _ 18 I0 FC_0).weak (fun _ _ h => rpx h)) (fun J hJ => by rw [e]; exact (ct_X10_count_11 _ 15 J hJ.fw).weak (fun _ _ h => h.1))
    | k + 12, hk2, _ => exact absurd hk2 (by omega)
theorem la_coast (h9 : gad G0 998 = b0) (ad : Nat → Nat) : Rn (gw G0 ad) GAM mL_law_ (kZ (kL b0 6 xs) G0 0 ad 108) 20 400000 350 [some (.ref 998), some (.ref 0), some (.ref 94), some (.ref 107), some (.int (nI 0)), none, none] [] I0 := by
  exact lcn_coast h9 ad (nI 1) (fun _ => cwn_coast _ 18 (nI 1) (ct_X9_coast _ 15 I0 FC_0)) (fun J hJ => ct_X10_coast _ 16 J hJ.fw)
theorem la_law (h9 : gad G0 998 = b0) (ad : Nat → Nat) : Rn (gw G0 ad) GAM mL_law_ (kZ (kL b0 6 xs) G0 0 ad 108) 20 400000 394 [some (.ref 998), some (.ref 0), some (.ref 94), some (.ref 107), some (.int (nI 0)), none, none] [] I0 := by
  exact lcn_law h9 ad (nI 0) (fun _ => cwn_law _ 18 (nI 0) (ct_X9_law _ 15 I0 FC_0)) (fun J hJ => ct_X10_law _ 16 J hJ.fw)
theorem la_whose (h9 : gad G0 998 = b0) (ad : Nat → Nat) : Rn (gw G0 ad) GAM mL_law_ (kZ (kL b0 6 xs) G0 0 ad 108) 20 400000 1606 [some (.ref 998), some (.ref 0), some (.ref 94), some (.ref 107), some (.int (nI 0)), none, none] [] I0 := by
  exact lcn_whose h9 ad (nI 0) (fun _ => cwn_whose _ 18 (nI 0) ((ct_X9_whose _ 16 I0 FC_0).weak (fun _ _ h => rct h))) (fun J hJ => (ct_X10_whose _ 17 J hJ.fw).weak (fun _ _ h => rmu h))
theorem la_next (h9 : gad G0 998 = b0) (ad : Nat → Nat) : Rn (gw G0 ad) GAM mL_law_ (kZ (kL b0 6 xs) G0 0 ad 108) 20 400000 1650 [some (.ref 998), some (.ref 0), some (.ref 94), some (.ref 107), some (.int (nI 0)), none, none] [] I0 := by
  exact lcn_next h9 ad (-1) (fun _ => cwn_next _ 18 (-1) ((ct_X9_next _ 16 I0 FC_0).weak (fun _ _ h => rct h))) (fun J hJ => (ct_X10_next _ 17 J hJ.fw).weak (fun _ _ h => rmu h))
theorem la_match (h9 : gad G0 998 = b0) (ad : Nat → Nat) : Rn (gw G0 ad) GAM mL_law_ (kZ (kL b0 6 xs) G0 0 ad 108) 20 400000 1694 [some (.ref 998), some (.ref 0), some (.ref 94), some (.ref 107), some (.int (nI 0)), none, none] [] I0 := by
  exact lcn_match h9 ad (if xs 2 = -1 then nI 0 else -1) (fun _ => cwn_match _ 18 _ _ _ ((ct_X9_match _ 16 I0 FC_0 _ _).weak (fun _ _ h => ⟨h.1, fun c hc => by rw [h.2]; unfold mtJ; rw [zset_ne _ _ (by omega), zup_ne _ _ (by omega), zup_ne _ _ (by omega), zup_ne _ _ (by omega)]⟩))) (fun J hJ => ct_X10_match _ 17 J hJ.fw _ _)
theorem la_sells (h9 : gad G0 998 = b0) (ad : Nat → Nat) : Rn (gw G0 ad) GAM mL_law_ (kZ (kL b0 6 xs) G0 0 ad 108) 20 400000 1842 [some (.ref 998), some (.ref 0), some (.ref 94), some (.ref 107), some (.int (nI 0)), none, none] [] I0 := by
  by_cases h : ¬ xs 1 < 0 ∧ xs 1 ≤ nI 50
  · exact lcn_sells h9 ad (nI 0) (fun _ => cwn_sells _ 18 _ (nI 0) ((ct_X9_sells0 _ 17 I0 FC_0 _ h.1 h.2).weak (fun _ _ h => rcx h))) (fun J hJ => (ct_X10_sells0 _ 17 J hJ.fw _ ⟨Int32.not_lt.mp h.1, h.2⟩).weak (fun _ _ h => rmx h))
  · exact lct_sells h9 ad (fun _ => cwt_sells _ 18 _ (ct_X9_sells1 _ 17 I0 _ h)) (fun _ => ct_X10_sells1 _ 17 I0 _ (fun q => h ⟨Int32.not_lt.mpr q.1, q.2⟩))
theorem la_luckiest (h9 : gad G0 998 = b0) (ad : Nat → Nat) : Rn (gw G0 ad) GAM mL_law_ (kZ (kL b0 6 xs) G0 0 ad 108) 20 400000 1924 [some (.ref 998), some (.ref 0), some (.ref 94), some (.ref 107), some (.int (nI 0)), none, none] [] I0 := by
  by_cases h : ¬ xs 1 < 0 ∧ xs 1 < nI 4
  · exact lcn_luckiest h9 ad (-1) (fun _ => cwn_luckiest _ 18 _ (-1) ((ct_X9_luckiest0 _ 17 I0 FC_0 _ h.1 h.2).weak (fun _ _ h => rcx h))) (fun J hJ => (ct_X10_luckiest0 _ 17 J hJ.fw _ ⟨Int32.not_lt.mp h.1, (lt4 _).mp h.2⟩).weak (fun _ _ h => rmx h))
  · exact lct_luckiest h9 ad (fun _ => cwt_luckiest _ 18 _ (ct_X9_luckiest1 _ 17 I0 _ h)) (fun _ => ct_X10_luckiest1 _ 17 I0 _ (fun q => h ⟨Int32.not_lt.mpr q.1, (lt4 _).mpr q.2⟩))
theorem la_log (h9 : gad G0 998 = b0) (ad : Nat → Nat) : Rn (gw G0 ad) GAM mL_law_ (kZ (kL b0 6 xs) G0 0 ad 108) 20 400000 2565 [some (.ref 998), some (.ref 0), some (.ref 94), some (.ref 107), some (.int (nI 0)), none, none] [] I0 := by
  by_cases h : ¬ xs 2 < 0 ∧ xs 2 < nI 4
  · exact lcn_log h9 ad (-1000) (fun _ => cwn_log _ 18 _ _ (-1000) ((ct_X9_log0 _ 18 I0 FC_0 _ _ h.1 h.2).weak (fun _ _ h => rcx h))) (fun J hJ => (ct_X10_log0 _ 18 J hJ.fw _ _ ⟨Int32.not_lt.mp h.1, (lt4 _).mp h.2⟩).weak (fun _ _ h => rmx h))
  · exact lct_log h9 ad (fun _ => cwt_log _ 18 _ _ (ct_X9_log1 _ 18 I0 _ _ h)) (fun _ => ct_X10_log1 _ 18 I0 _ _ (fun q => h ⟨Int32.not_lt.mpr q.1, (lt4 _).mpr q.2⟩))
theorem la_days (h9 : gad G0 998 = b0) (ad : Nat → Nat) : Rn (gw G0 ad) GAM mL_law_ (kZ (kL b0 6 xs) G0 0 ad 108) 20 400000 1130 [some (.ref 998), some (.ref 0), some (.ref 94), some (.ref 107), some (.int (nI 0)), none, none] [] I0 := by
  by_cases h : ¬ xs 1 < nI 1 ∧ xs 1 ≤ nI 60
  · obtain ⟨N, hN, e⟩ := in60 (x := xs 1) (fun q => h.1 (Int32.lt_trans q (by decide))) h.2
    exact lcn_days h9 ad (nI 0) (fun _ => cwn_days _ 18 _ (nI 0) (ct_X9_days0 _ 16 I0 FC_0 _ h.1 h.2)) (fun J hJ => by rw [e]; exact ct_X10_days0 _ 16 J hJ.fw N hN (by rw [← e]; exact ⟨Int32.not_lt.mp h.1, h.2⟩))
  · exact lct_days h9 ad (fun _ => cwt_days _ 18 _ (ct_X9_days1 _ 16 I0 _ h)) (fun _ => ct_X10_days1 _ 16 I0 _ (fun q => h ⟨Int32.not_lt.mpr q.1, q.2⟩))
theorem la_trial (h9 : gad G0 998 = b0) (ad : Nat → Nat) : Rn (gw G0 ad) GAM mL_law_ (kZ (kL b0 6 xs) G0 0 ad 108) 20 400000 2313 [some (.ref 998), some (.ref 0), some (.ref 94), some (.ref 107), some (.int (nI 0)), none, none] [] I0 := by
  by_cases h : ¬ xs 1 < 0 ∧ xs 1 ≤ nI 60
  · obtain ⟨N, hN, e⟩ := in60 h.1 h.2
    exact lcn_trial h9 ad (nI 0) (fun y => cwn_trial _ 18 _ _ (nI 0) (ct_X9_trial0 _ 17 I0 FC_0 _ y h.1 h.2)) (fun y J hJ => by rw [e]; exact ct_X10_trial0 _ 15 J hJ.fw y N hN (by rw [← e]; exact ⟨Int32.not_lt.mp h.1, h.2⟩))
  · exact lct_trial h9 ad (fun y => cwt_trial _ 18 _ _ (ct_X9_trial1 _ 17 I0 _ y h)) (fun y => ct_X10_trial1 _ 15 I0 _ y (fun q => h ⟨Int32.not_lt.mpr q.1, q.2⟩))
theorem la_span (h9 : gad G0 998 = b0) (ad : Nat → Nat) : Rn (gw G0 ad) GAM mL_law_ (kZ (kL b0 6 xs) G0 0 ad 108) 20 400000 2397 [some (.ref 998), some (.ref 0), some (.ref 94), some (.ref 107), some (.int (nI 0)), none, none] [] I0 := by
  by_cases h : ¬ xs 1 < 0 ∧ xs 1 ≤ nI 60
  · obtain ⟨N, hN, e⟩ := in60 h.1 h.2
    have hN2 : nI 0 ≤ nI N ∧ nI N ≤ nI 60 := by rw [← e]; exact ⟨Int32.not_lt.mp h.1, h.2⟩
    refine lcn_span h9 ad (nI 0) (fun y => cwn_span _ 18 _ _ (nI 0) ?_) (fun y J hJ => ?_)
    · by_cases hy : y = 0
      · exact ct_X9_span0_zero _ 17 I0 FC_0 _ y h.1 h.2 hy
      · exact ct_X9_span0_nonz _ 17 I0 FC_0 _ y h.1 h.2 hy
    · rw [e]
      by_cases hy : y = 0
      · exact ct_X10_span0_zero _ 15 J hJ.fw y N hN hN2 hy
      · exact ct_X10_span0_nonz _ 15 J hJ.fw y N hN hN2 hy
  · exact lct_span h9 ad (fun y => cwt_span _ 18 _ _ (ct_X9_span1 _ 17 I0 _ y h)) (fun y => ct_X10_span1 _ 15 I0 _ y (fun q => h ⟨Int32.not_lt.mpr q.1, q.2⟩))
theorem law_all : LawCases := by
  intro G0 b0 xs h9 ad
  obtain ⟨k, hk, hx⟩ := and63 (xs 0)
  rw [hx]
  clear hx
  match k, hk with
  | 0, _ => exact Rn.tableIn 252 dL_law__40 (by decide) (by decide) rfl (by decide) (la_feed h9 ad)
  | 1, _ => exact Rn.tableIn 325 dL_law__40 (by decide) (by decide) rfl (by decide) (la_end h9 ad)
  | 2, _ => exact Rn.tableIn 350 dL_law__40 (by decide) (by decide) rfl (by decide) (la_coast h9 ad)
  | 3, _ => exact Rn.tableIn 394 dL_law__40 (by decide) (by decide) rfl (by decide) (la_law h9 ad)
  | 4, _ => exact Rn.tableIn 438 dL_law__40 (by decide) (by decide) rfl (by decide) (la_fault h9 ad)
  | 5, _ => exact Rn.tableIn 451 dL_law__40 (by decide) (by decide) rfl (by decide) (lc_woman h9 ad)
  | 6, _ => exact Rn.tableIn 519 dL_law__40 (by decide) (by decide) rfl (by decide) (lc_thing h9 ad)
  | 7, _ => exact Rn.tableIn 587 dL_law__40 (by decide) (by decide) rfl (by decide) (lc_gain h9 ad)
  | 8, _ => exact Rn.tableIn 655 dL_law__40 (by decide) (by decide) rfl (by decide) (lc_flows h9 ad)
  | 9, _ => exact Rn.tableIn 735 dL_law__40 (by decide) (by decide) rfl (by decide) (lc_lend h9 ad)
  | 10, _ => exact Rn.tableIn 803 dL_law__40 (by decide) (by decide) rfl (by decide) (lc_wed h9 ad)
  | 11, _ => exact Rn.tableIn 871 dL_law__40 (by decide) (by decide) rfl (by decide) (lc_pawn h9 ad)
  | 12, _ => exact Rn.tableIn 927 dL_law__40 (by decide) (by decide) rfl (by decide) (lc_redeem h9 ad)
  | 13, _ => exact Rn.tableIn 983 dL_law__40 (by decide) (by decide) rfl (by decide) (lc_cut h9 ad)
  | 14, _ => exact Rn.tableIn 1039 dL_law__40 (by decide) (by decide) rfl (by decide) (lc_widow h9 ad)
  | 15, _ => exact Rn.tableIn 1130 dL_law__40 (by decide) (by decide) rfl (by decide) (la_days h9 ad)
  | 16, _ => exact Rn.tableIn 1186 dL_law__40 (by decide) (by decide) rfl (by decide) (lc_best h9 ad)
  | 17, _ => exact Rn.tableIn 1242 dL_law__40 (by decide) (by decide) rfl (by decide) (lc_order h9 ad)
  | 18, _ => exact Rn.tableIn 1322 dL_law__40 (by decide) (by decide) rfl (by decide) (lc_lowest h9 ad)
  | 19, _ => exact Rn.tableIn 1390 dL_law__40 (by decide) (by decide) rfl (by decide) (lc_reach h9 ad)
  | 20, _ => exact Rn.tableIn 1482 dL_law__40 (by decide) (by decide) rfl (by decide) (lc_chain h9 ad)
  | 21, _ => exact Rn.tableIn 1538 dL_law__40 (by decide) (by decide) rfl (by decide) (lc_since h9 ad)
  | 22, _ => exact Rn.tableIn 1606 dL_law__40 (by decide) (by decide) rfl (by decide) (la_whose h9 ad)
  | 23, _ => exact Rn.tableIn 1650 dL_law__40 (by decide) (by decide) rfl (by decide) (la_next h9 ad)
  | 24, _ => exact Rn.tableIn 1694 dL_law__40 (by decide) (by decide) rfl (by decide) (la_match h9 ad)
  | 25, _ => exact Rn.tableIn 1762 dL_law__40 (by decide) (by decide) rfl (by decide) (lc_rests h9 ad)
  | 26, _ => exact Rn.tableIn 1842 dL_law__40 (by decide) (by decide) rfl (by decide) (la_sells h9 ad)
  | 27, _ => exact Rn.tableIn 1898 dL_law__40 (by decide) (by decide) rfl (by decide) (la_dearest h9 ad)
  | 28, _ => exact Rn.tableIn 1911 dL_law__40 (by decide) (by decide) rfl (by decide) (la_unlucky h9 ad)
  | 29, _ => exact Rn.tableIn 1924 dL_law__40 (by decide) (by decide) rfl (by decide) (la_luckiest h9 ad)
  | 30, _ => exact Rn.tableIn 1980 dL_law__40 (by decide) (by decide) rfl (by decide) (lc_ring h9 ad)
  | 31, _ => exact Rn.tableIn 2043 dL_law__40 (by decide) (by decide) rfl (by decide) (lc_runs h9 ad)
  | 32, _ => exact Rn.tableIn 2111 dL_law__40 (by decide) (by decide) rfl (by decide) (lc_spent h9 ad)
  | 33, _ => exact Rn.tableIn 2167 dL_law__40 (by decide) (by decide) rfl (by decide) (la_oldest h9 ad)
  | 34, _ => exact Rn.tableIn 2180 dL_law__40 (by decide) (by decide) rfl (by decide) (la_stuck h9 ad)
  | 35, _ => exact Rn.tableIn 2193 dL_law__40 (by decide) (by decide) rfl (by decide) (la_pawned h9 ad)
  | 36, _ => exact Rn.tableIn 2206 dL_law__40 (by decide) (by decide) rfl (by decide) (la_blue h9 ad)
  | 37, _ => exact Rn.tableIn 2219 dL_law__40 (by decide) (by decide) rfl (by decide) (la_alike h9 ad)
  | 38, _ => exact Rn.tableIn 2232 dL_law__40 (by decide) (by decide) rfl (by decide) (lc_share h9 ad)
  | 39, _ => exact Rn.tableIn 2300 dL_law__40 (by decide) (by decide) rfl (by decide) (la_odds h9 ad)
  | 40, _ => exact Rn.tableIn 2313 dL_law__40 (by decide) (by decide) rfl (by decide) (la_trial h9 ad)
  | 41, _ => exact Rn.tableIn 2397 dL_law__40 (by decide) (by decide) rfl (by decide) (la_span h9 ad)
  | 42, _ => exact Rn.tableIn 2481 dL_law__40 (by decide) (by decide) rfl (by decide) (lc_led h9 ad)
  | 43, _ => exact Rn.tableIn 2565 dL_law__40 (by decide) (by decide) rfl (by decide) (la_log h9 ad)
  | 44, _ => exact Rn.tableIn 2633 dL_law__40 (by decide) (by decide) rfl (by decide) (la_seed h9 ad)
  | 45, _ => exact Rn.tableIn 2658 dL_law__40 (by decide) (by decide) rfl (by decide) (la_undo h9 ad)
  | 46, _ => exact Rn.tableIn 2671 dL_law__40 (by decide) (by decide) rfl (by decide) (la_image h9 ad)
  | 47, _ => exact Rn.tableIn 2682 dL_law__40 (by decide) (by decide) rfl (by decide) (la_back h9 ad)
  | 48, _ => exact Rn.tableIn 2695 dL_law__40 (by decide) (by decide) rfl (by decide) (la_count h9 ad)
  | 49, _ => exact Rn.tableOut 2720 dL_law__40 (by decide) (by decide) (law_end h9 ad _ _ _ _ _)
  | 50, _ => exact Rn.tableOut 2720 dL_law__40 (by decide) (by decide) (law_end h9 ad _ _ _ _ _)
  | 51, _ => exact Rn.tableOut 2720 dL_law__40 (by decide) (by decide) (law_end h9 ad _ _ _ _ _)
  | 52, _ => exact Rn.tableOut 2720 dL_law__40 (by decide) (by decide) (law_end h9 ad _ _ _ _ _)
  | 53, _ => exact Rn.tableOut 2720 dL_law__40 (by decide) (by decide) (law_end h9 ad _ _ _ _ _)
  | 54, _ => exact Rn.tableOut 2720 dL_law__40 (by decide) (by decide) (law_end h9 ad _ _ _ _ _)
  | 55, _ => exact Rn.tableOut 2720 dL_law__40 (by decide) (by decide) (law_end h9 ad _ _ _ _ _)
  | 56, _ => exact Rn.tableOut 2720 dL_law__40 (by decide) (by decide) (law_end h9 ad _ _ _ _ _)
  | 57, _ => exact Rn.tableOut 2720 dL_law__40 (by decide) (by decide) (law_end h9 ad _ _ _ _ _)
  | 58, _ => exact Rn.tableOut 2720 dL_law__40 (by decide) (by decide) (law_end h9 ad _ _ _ _ _)
  | 59, _ => exact Rn.tableOut 2720 dL_law__40 (by decide) (by decide) (law_end h9 ad _ _ _ _ _)
  | 60, _ => exact Rn.tableOut 2720 dL_law__40 (by decide) (by decide) (law_end h9 ad _ _ _ _ _)
  | 61, _ => exact Rn.tableOut 2720 dL_law__40 (by decide) (by decide) (law_end h9 ad _ _ _ _ _)
  | 62, _ => exact Rn.tableOut 2720 dL_law__40 (by decide) (by decide) (law_end h9 ad _ _ _ _ _)
  | 63, _ => exact Rn.tableOut 2720 dL_law__40 (by decide) (by decide) (law_end h9 ad _ _ _ _ _)
  | k + 64, hk => exact absurd hk (by omega)
end LawAll
