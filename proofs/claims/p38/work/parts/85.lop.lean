theorem dL_law__40 : decode cL_law_ 40 = .ok (.tableswitch 1742 0 48 #[212, 285, 310, 326, 342, 355, 395, 435, 475, 527, 567, 607, 635, 663, 691, 747, 775, 803, 855, 895, 959, 987, 1027, 1043, 1059, 1099, 1151, 1179, 1192, 1205, 1233, 1261, 1301, 1329, 1342, 1355, 1368, 1381, 1394, 1434, 1447, 1503, 1559, 1615, 1655, 1680, 1693, 1704, 1717], 212) := by decide +kernel
theorem dL_law__23 : decode cL_law_ 23 = .ok (.iload 4, 2) := by decide +kernel
theorem dL_law__25 : decode cL_law_ 25 = .ok (.aload_n 0, 1) := by decide +kernel
theorem dL_law__26 : decode cL_law_ 26 = .ok (.arraylength, 1) := by decide +kernel
theorem dL_law__27 : decode cL_law_ 27 = .ok (.bipush 6, 2) := by decide +kernel
theorem dL_law__29 : decode cL_law_ 29 = .ok (.isub, 1) := by decide +kernel
theorem dL_law__30 : decode cL_law_ 30 = .ok (.if_icmp .gt 1758, 3) := by decide +kernel
theorem dL_law__1788 : decode cL_law_ 1788 = .ok (.iconst 1, 1) := by decide +kernel
theorem dL_law__1789 : decode cL_law_ 1789 = .ok (.ireturn, 1) := by decide +kernel
theorem dL_law__33 : decode cL_law_ 33 = .ok (.aload_n 0, 1) := by decide +kernel
theorem dL_law__34 : decode cL_law_ 34 = .ok (.iload 4, 2) := by decide +kernel
theorem dL_law__36 : decode cL_law_ 36 = .ok (.iaload, 1) := by decide +kernel
theorem dL_law__37 : decode cL_law_ 37 = .ok (.bipush 63, 2) := by decide +kernel
theorem dL_law__39 : decode cL_law_ 39 = .ok (.iand, 1) := by decide +kernel
theorem dL_law__1782 : decode cL_law_ 1782 = .ok (.iinc 4 6, 3) := by decide +kernel
theorem dL_law__1785 : decode cL_law_ 1785 = .ok (.goto (-1762), 3) := by decide +kernel
section LawL
variable {G0 : Gx} {b0 L : Nat} {xs : Nat → Int32} {ad : Nat → Nat}
theorem law_sw (h9 : gad G0 998 = b0) (hL : L ≤ 3072) {m i : Nat} (hi : i + 6 ≤ L) {I : Hi} (hI : LI I) {x5 x6 : Option Value} (kk : ∀ (J : Hi) (x5 x6 : Option Value), LI J → Rn (gw G0 ad) GAM mL_law_ (kZ (kL b0 L xs) G0 0 ad 108) 60 (8 * m) 1782 [some (.ref 998), some (.ref 0), some (.ref 94), some (.ref 107), some (.int (nI i)), x5, x6] [] J) (k : Nat) (hk : k < 64) : Rn (gw G0 ad) GAM mL_law_ (kZ (kL b0 L xs) G0 0 ad 108) 60 (8 * m + 8) 40 [some (.ref 998), some (.ref 0), some (.ref 94), some (.ref 107), some (.int (nI i)), x5, x6] [.int (nI k)] I := by
  match k, hk with
  | 0, _ => exact Rn.tableIn 252 dL_law__40 (by decide) (by decide) rfl (by decide) (lc_feed h9 hL hi hI kk)
  | 1, _ => exact Rn.tableIn 325 dL_law__40 (by decide) (by decide) rfl (by decide) (lc_end h9 hL hi hI kk)
  | 2, _ => exact Rn.tableIn 350 dL_law__40 (by decide) (by decide) rfl (by decide) (lc_coast h9 hL hi hI kk)
  | 3, _ => exact Rn.tableIn 366 dL_law__40 (by decide) (by decide) rfl (by decide) (lc_law h9 hL hi hI kk)
  | 4, _ => exact Rn.tableIn 382 dL_law__40 (by decide) (by decide) rfl (by decide) (lc_fault h9 hL hi hI kk)
  | 5, _ => exact Rn.tableIn 395 dL_law__40 (by decide) (by decide) rfl (by decide) (lc_woman h9 hL hi hI kk)
  | 6, _ => exact Rn.tableIn 435 dL_law__40 (by decide) (by decide) rfl (by decide) (lc_thing h9 hL hi hI kk)
  | 7, _ => exact Rn.tableIn 475 dL_law__40 (by decide) (by decide) rfl (by decide) (lc_gain h9 hL hi hI kk)
  | 8, _ => exact Rn.tableIn 515 dL_law__40 (by decide) (by decide) rfl (by decide) (lc_flows h9 hL hi hI kk)
  | 9, _ => exact Rn.tableIn 567 dL_law__40 (by decide) (by decide) rfl (by decide) (lc_lend h9 hL hi hI kk)
  | 10, _ => exact Rn.tableIn 607 dL_law__40 (by decide) (by decide) rfl (by decide) (lc_wed h9 hL hi hI kk)
  | 11, _ => exact Rn.tableIn 647 dL_law__40 (by decide) (by decide) rfl (by decide) (lc_pawn h9 hL hi hI kk)
  | 12, _ => exact Rn.tableIn 675 dL_law__40 (by decide) (by decide) rfl (by decide) (lc_redeem h9 hL hi hI kk)
  | 13, _ => exact Rn.tableIn 703 dL_law__40 (by decide) (by decide) rfl (by decide) (lc_cut h9 hL hi hI kk)
  | 14, _ => exact Rn.tableIn 731 dL_law__40 (by decide) (by decide) rfl (by decide) (lc_widow h9 hL hi hI kk)
  | 15, _ => exact Rn.tableIn 787 dL_law__40 (by decide) (by decide) rfl (by decide) (lc_days h9 hL hi hI kk)
  | 16, _ => exact Rn.tableIn 815 dL_law__40 (by decide) (by decide) rfl (by decide) (lc_best h9 hL hi hI kk)
  | 17, _ => exact Rn.tableIn 843 dL_law__40 (by decide) (by decide) rfl (by decide) (lc_order h9 hL hi hI kk)
  | 18, _ => exact Rn.tableIn 895 dL_law__40 (by decide) (by decide) rfl (by decide) (lc_lowest h9 hL hi hI kk)
  | 19, _ => exact Rn.tableIn 935 dL_law__40 (by decide) (by decide) rfl (by decide) (lc_reach h9 hL hi hI kk)
  | 20, _ => exact Rn.tableIn 999 dL_law__40 (by decide) (by decide) rfl (by decide) (lc_chain h9 hL hi hI kk)
  | 21, _ => exact Rn.tableIn 1027 dL_law__40 (by decide) (by decide) rfl (by decide) (lc_since h9 hL hi hI kk)
  | 22, _ => exact Rn.tableIn 1067 dL_law__40 (by decide) (by decide) rfl (by decide) (lc_whose h9 hL hi hI kk)
  | 23, _ => exact Rn.tableIn 1083 dL_law__40 (by decide) (by decide) rfl (by decide) (lc_next h9 hL hi hI kk)
  | 24, _ => exact Rn.tableIn 1099 dL_law__40 (by decide) (by decide) rfl (by decide) (lc_match h9 hL hi hI kk)
  | 25, _ => exact Rn.tableIn 1139 dL_law__40 (by decide) (by decide) rfl (by decide) (lc_rests h9 hL hi hI kk)
  | 26, _ => exact Rn.tableIn 1191 dL_law__40 (by decide) (by decide) rfl (by decide) (lc_sells h9 hL hi hI kk)
  | 27, _ => exact Rn.tableIn 1219 dL_law__40 (by decide) (by decide) rfl (by decide) (lc_dearest h9 hL hi hI kk)
  | 28, _ => exact Rn.tableIn 1232 dL_law__40 (by decide) (by decide) rfl (by decide) (lc_unlucky h9 hL hi hI kk)
  | 29, _ => exact Rn.tableIn 1245 dL_law__40 (by decide) (by decide) rfl (by decide) (lc_luckiest h9 hL hi hI kk)
  | 30, _ => exact Rn.tableIn 1273 dL_law__40 (by decide) (by decide) rfl (by decide) (lc_ring h9 hL hi hI kk)
  | 31, _ => exact Rn.tableIn 1301 dL_law__40 (by decide) (by decide) rfl (by decide) (lc_runs h9 hL hi hI kk)
  | 32, _ => exact Rn.tableIn 1341 dL_law__40 (by decide) (by decide) rfl (by decide) (lc_spent h9 hL hi hI kk)
  | 33, _ => exact Rn.tableIn 1369 dL_law__40 (by decide) (by decide) rfl (by decide) (lc_oldest h9 hL hi hI kk)
  | 34, _ => exact Rn.tableIn 1382 dL_law__40 (by decide) (by decide) rfl (by decide) (lc_stuck h9 hL hi hI kk)
  | 35, _ => exact Rn.tableIn 1395 dL_law__40 (by decide) (by decide) rfl (by decide) (lc_pawned h9 hL hi hI kk)
  | 36, _ => exact Rn.tableIn 1408 dL_law__40 (by decide) (by decide) rfl (by decide) (lc_blue h9 hL hi hI kk)
  | 37, _ => exact Rn.tableIn 1421 dL_law__40 (by decide) (by decide) rfl (by decide) (lc_alike h9 hL hi hI kk)
  | 38, _ => exact Rn.tableIn 1434 dL_law__40 (by decide) (by decide) rfl (by decide) (lc_share h9 hL hi hI kk)
  | 39, _ => exact Rn.tableIn 1474 dL_law__40 (by decide) (by decide) rfl (by decide) (lc_odds h9 hL hi hI kk)
  | 40, _ => exact Rn.tableIn 1487 dL_law__40 (by decide) (by decide) rfl (by decide) (lc_trial h9 hL hi hI kk)
  | 41, _ => exact Rn.tableIn 1543 dL_law__40 (by decide) (by decide) rfl (by decide) (lc_span h9 hL hi hI kk)
  | 42, _ => exact Rn.tableIn 1599 dL_law__40 (by decide) (by decide) rfl (by decide) (lc_led h9 hL hi hI kk)
  | 43, _ => exact Rn.tableIn 1655 dL_law__40 (by decide) (by decide) rfl (by decide) (lc_log h9 hL hi hI kk)
  | 44, _ => exact Rn.tableIn 1695 dL_law__40 (by decide) (by decide) rfl (by decide) (lc_seed h9 hL hi hI kk)
  | 45, _ => exact Rn.tableIn 1720 dL_law__40 (by decide) (by decide) rfl (by decide) (lc_undo h9 hL hi hI kk)
  | 46, _ => exact Rn.tableIn 1733 dL_law__40 (by decide) (by decide) rfl (by decide) (lc_image h9 hL hi hI kk)
  | 47, _ => exact Rn.tableIn 1744 dL_law__40 (by decide) (by decide) rfl (by decide) (lc_back h9 hL hi hI kk)
  | 48, _ => exact Rn.tableIn 1757 dL_law__40 (by decide) (by decide) rfl (by decide) (lc_count h9 hL hi hI kk)
  | k + 49, hk => exact Rn.tableOut 1782 dL_law__40 (by right; rw [nI_toInt (by omega)]; omega) (by decide) (Rn.bud (by omega) (kk _ _ _ hI))
theorem law_loop (h9 : gad G0 998 = b0) (hL : L ≤ 3072) : ∀ (m i : Nat) (I : Hi) (x5 x6 : Option Value), L ≤ i + 6 * m + 5 → i ≤ 3072 → LI I → Rn (gw G0 ad) GAM mL_law_ (kZ (kL b0 L xs) G0 0 ad 108) 60 (8 * m) 23 [some (.ref 998), some (.ref 0), some (.ref 94), some (.ref 107), some (.int (nI i)), x5, x6] [] I := by
  intro m
  have cmp : ∀ i, i ≤ 3072 → (nI L - nI 6 < nI i ↔ L < i + 6) := fun i hi => by
    rw [Int32.lt_iff_toInt_lt, nI_toInt (by omega), show nI L - nI 6 = Int32.ofInt ((L : Int) - 6) by rw [Int32.ofInt_sub]; rfl, toI_of (by omega) (by omega)]
    omega
  induction m with
  | zero =>
    intro i I x5 x6 h1 h2 hI
    refine Rn.iload dL_law__23 rfl ?_
    refine Rn.aload_n dL_law__25 rfl rfl ?_
    refine Rn.slen dL_law__26 h9 rfl ?_
    refine Rn.bipush (v := (nI 6)) dL_law__27 rfl ?_
    refine Rn.isub dL_law__29 ?_
    refine Rn.icmp_gt (tgt := 1788) dL_law__30 (by decide) (fun _ => ?_) (fun h8 => absurd ((cmp i h2).mpr (by omega)) h8)
    refine Rn.iconst (v := (nI 1)) dL_law__1788 rfl ?_
    exact Rn.lret dL_law__1789 rfl rfl
  | succ m ih =>
    intro i I x5 x6 h1 h2 hI
    refine Rn.iload dL_law__23 rfl ?_
    refine Rn.aload_n dL_law__25 rfl rfl ?_
    refine Rn.slen dL_law__26 h9 rfl ?_
    refine Rn.bipush (v := (nI 6)) dL_law__27 rfl ?_
    refine Rn.isub dL_law__29 ?_
    refine Rn.icmp_gt (tgt := 1788) dL_law__30 (by decide) (fun _ => ?_) (fun h8 => ?_)
    · refine Rn.iconst (v := (nI 1)) dL_law__1788 rfl ?_
      exact Rn.lret dL_law__1789 rfl rfl
    have h3 : i + 6 ≤ L := by
      false_or_by_contra
      exact h8 ((cmp i h2).mpr (by omega))
    refine Rn.aload_n dL_law__33 rfl rfl ?_
    refine Rn.iload dL_law__34 rfl ?_
    refine Rn.sld dL_law__36 h9 (by omega) (by omega) rfl ?_
    refine Rn.bipush (v := (nI 63)) dL_law__37 rfl ?_
    refine Rn.iand dL_law__39 ?_
    obtain ⟨k, hk, e⟩ := and63 (xs i)
    refine Rn.topI (nI k) e ?_
    refine law_sw h9 hL h3 hI (fun J y5 y6 hJ => ?_) k hk
    refine Rn.iinc (v := nI (i + 6)) dL_law__1782 rfl (nI_add i 6) (by decide) ?_
    refine Rn.goto 23 dL_law__1785 (by decide) ?_
    by_cases h4 : i + 6 ≤ 3072
    · exact ih (i + 6) J _ _ (by omega) h4 hJ
    · omega
end LawL
