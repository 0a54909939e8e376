abbrev mL_law_ : Ym := (yL_law_, cL_law_, 7, some .boolean)
theorem dL_law__26 : decode cL_law_ 26 = .ok (.arraylength, 1) := by decide +kernel
theorem dL_law__30 : decode cL_law_ 30 = .ok (.if_icmp .gt 2696, 3) := by decide +kernel
theorem dL_law__2727 : decode cL_law_ 2727 = .ok (.ireturn, 1) := by decide +kernel
theorem dL_law__2720 : decode cL_law_ 2720 = .ok (.iinc 4 6, 3) := by decide +kernel
theorem dL_law__2723 : decode cL_law_ 2723 = .ok (.goto (-2700), 3) := by decide +kernel
theorem dL_law__23 : decode cL_law_ 23 = .ok (.iload 4, 2) := by decide +kernel
theorem dL_law__25 : decode cL_law_ 25 = .ok (.aload_n 0, 1) := by decide +kernel
theorem dL_law__27 : decode cL_law_ 27 = .ok (.bipush 6, 2) := by decide +kernel
theorem dL_law__29 : decode cL_law_ 29 = .ok (.isub, 1) := by decide +kernel
theorem dL_law__2726 : decode cL_law_ 2726 = .ok (.iconst 1, 1) := by decide +kernel
theorem dL_law__0 : decode cL_law_ 0 = .ok (.new 8, 3) := by decide +kernel
theorem wi_126 : Cond.classLink RL 8 RX9 ∈ WA := zin 126 (by decide +kernel) (by decide +kernel)
theorem wi_127 : Cond.instantiable RX9 13 ∈ WA := zin 127 (by decide +kernel) (by decide +kernel)
theorem wi_100 : Cond.initialized RX9 ∈ WA := zin 100 (by decide +kernel) (by decide +kernel)
theorem nw_L_8 : zNw RL 8 8 13 [some none, some none, some none, some none, some none, some none, some none, some none, some none, some none, some none, none, none] := ⟨RX9, TX9, tyX9, rfl, uw_X9, tyX9_ok, wi_126, wi_127, wi_100, rfl, by decide +kernel⟩
theorem dL_law__3 : decode cL_law_ 3 = .ok (.dup, 1) := by decide +kernel
theorem dL_law__4 : decode cL_law_ 4 = .ok (.invokespecial 126, 3) := by decide +kernel
theorem wi_128 : Cond.methodLink RL 126 yX9_init ∈ WA := zin 128 (by decide +kernel) (by decide +kernel)
theorem wi_130 : Cond.code yX9_init cX9_init 1 (none) ∈ WA := zin 130 (by decide +kernel) (by decide +kernel)
theorem wi_129 : Cond.instanceMethod yX9_init ∈ WA := zin 129 (by decide +kernel) (by decide +kernel)
theorem mi_L_126 : zMi RL 126 mX9_init 0 := ⟨⟨wi_128, wi_100, wi_130, by decide, by decide +kernel⟩, rfl, wi_129⟩
theorem dL_law__7 : decode cL_law_ 7 = .ok (.astore_n 1, 1) := by decide +kernel
theorem dL_law__8 : decode cL_law_ 8 = .ok (.new 127, 3) := by decide +kernel
theorem wi_1257 : Cond.classLink RL 127 RX10 ∈ WA := zin 1257 (by decide +kernel) (by decide +kernel)
theorem wi_1258 : Cond.instantiable RX10 23 ∈ WA := zin 1258 (by decide +kernel) (by decide +kernel)
theorem nw_L_127 : zNw RL 127 9 23 [none, some none, some none, some none, some none, some none, none, none, some none, none, none, none, none, none, none, some none, none, some none, some none, some none, some none, none, some none] := ⟨RX10, TX10, tyX10, rfl, uw_X10, tyX10_ok, wi_1257, wi_1258, wi_110, rfl, by decide +kernel⟩
theorem dL_law__11 : decode cL_law_ 11 = .ok (.dup, 1) := by decide +kernel
theorem dL_law__12 : decode cL_law_ 12 = .ok (.invokespecial 129, 3) := by decide +kernel
theorem wi_1259 : Cond.methodLink RL 129 yX10_init ∈ WA := zin 1259 (by decide +kernel) (by decide +kernel)
theorem wi_1261 : Cond.code yX10_init cX10_init 1 (none) ∈ WA := zin 1261 (by decide +kernel) (by decide +kernel)
theorem wi_1260 : Cond.instanceMethod yX10_init ∈ WA := zin 1260 (by decide +kernel) (by decide +kernel)
theorem mi_L_129 : zMi RL 129 mX10_init 0 := ⟨⟨wi_1259, wi_110, wi_1261, by decide, by decide +kernel⟩, rfl, wi_1260⟩
theorem dL_law__15 : decode cL_law_ 15 = .ok (.astore_n 2, 1) := by decide +kernel
theorem dL_law__16 : decode cL_law_ 16 = .ok (.iconst 1, 1) := by decide +kernel
theorem dL_law__17 : decode cL_law_ 17 = .ok (.newarray .long, 2) := by decide +kernel
theorem wi_1932 : Cond.arrayClass .long ∈ WA := zin 1932 (by decide +kernel) (by decide +kernel)
theorem dL_law__19 : decode cL_law_ 19 = .ok (.astore_n 3, 1) := by decide +kernel
theorem dL_law__20 : decode cL_law_ 20 = .ok (.iconst 0, 1) := by decide +kernel
theorem dL_law__21 : decode cL_law_ 21 = .ok (.istore 4, 2) := by decide +kernel
theorem dL_law__33 : decode cL_law_ 33 = .ok (.aload_n 0, 1) := by decide +kernel
theorem dL_law__34 : decode cL_law_ 34 = .ok (.iload 4, 2) := by decide +kernel
theorem dL_law__36 : decode cL_law_ 36 = .ok (.iaload, 1) := by decide +kernel
theorem dL_law__37 : decode cL_law_ 37 = .ok (.bipush 63, 2) := by decide +kernel
theorem dL_law__39 : decode cL_law_ 39 = .ok (.iand, 1) := by decide +kernel
/-! the law's own rules -/
def kL (b L : Nat) (xs : Nat → Int32) : Kx := fun s args below _ tc ts Z => args = #[Value.ref b] ∧ Z = lw_Z below #[Value.ref b] s ∧ tc = 600002 ∧ ts = 7302232 ∧ va_X b L xs s s.heap ∧ b < s.heap.size
section LawRules
variable {G0 : Gx} {ad : Nat → Nat} {Ga : List Shp} {Y : Ym} {d b n b0 L pc pc' : Nat} {xs : Nat → Int32} {ls : List (Option Value)} {st : List Value} {I : Hi}
theorem zscr {s : State} (hn : Ga.length = n) (g2 : ∀ k, 0 ≤ k → k < n → s.heap.size ≤ ad k) (hb : b0 < s.heap.size) : ¬ zA (gw G0 ad) Ga s.heap.size b0 := by
  rintro (⟨k, hk, e⟩ | h)
  · have h1 := g2 k (Nat.zero_le _) (by omega)
    have e : b0 = ad k := e
    omega
  · omega
theorem Rn.sld {j : Nat} (hd : decode Y.2.1 pc = .ok (.iaload, 1)) (h9 : gad G0 998 = b0) (hj : j < L) (hL : L < 100000) (hn : Ga.length = n) (k : Rn (gw G0 ad) Ga Y (kZ (kL b0 L xs) G0 0 ad n) d b pc' ls (.int (xs j) :: st) I) (hp : pc + 1 = pc' := by rfl) : Rn (gw G0 ad) Ga Y (kZ (kL b0 L xs) G0 0 ad n) d b pc ls (.int (nI j) :: .ref 998 :: st) I := by
  subst hp
  intro p e R s m args below meth c H locs cells slots tc ts Z F hk lsA hl
  have kk := k p e R s m args below meth c H locs cells slots tc ts Z F hk lsA hl
  obtain ⟨⟨-, -, -, -, hX, hbl⟩, g1, g2, g3, g4⟩ := hk
  have hb : ad 998 = b0 := (g1 998 (Or.inr (by omega))).trans h9
  refine va_sld (b := ad 998) (L := L) (xs := xs) F.1.1 F.1.2.1 (by rw [hb]; exact hX) (by rw [hb]; exact hbl) (by rw [hb]; exact zscr hn g2 hbl) F.2.1.2.2 (vp_in_nI hj (by omega)) hd ?_
  rw [nI_clamp (by omega)]
  exact kk
theorem Rn.slen (hd : decode Y.2.1 pc = .ok (.arraylength, 1)) (h9 : gad G0 998 = b0) (hn : Ga.length = n) (k : Rn (gw G0 ad) Ga Y (kZ (kL b0 L xs) G0 0 ad n) d b pc' ls (.int (nI L) :: st) I) (hp : pc + 1 = pc' := by rfl) : Rn (gw G0 ad) Ga Y (kZ (kL b0 L xs) G0 0 ad n) d b pc ls (.ref 998 :: st) I := by
  subst hp
  intro p e R s m args below meth c H locs cells slots tc ts Z F hk lsA hl
  have kk := k p e R s m args below meth c H locs cells slots tc ts Z F hk lsA hl
  obtain ⟨⟨-, -, -, -, hX, hbl⟩, g1, g2, g3, g4⟩ := hk
  have hb : ad 998 = b0 := (g1 998 (Or.inr (by omega))).trans h9
  exact va_slen (b := ad 998) (L := L) (xs := xs) F.1.1 F.1.2.1 (by rw [hb]; exact hX) (by rw [hb]; exact hbl) (by rw [hb]; exact zscr hn g2 hbl) F.2.1.2.2 hd kk
theorem Rn.lret (hd : decode Y.2.1 pc = .ok (.ireturn, 1)) (hr : Y.2.2.2 = some .boolean) (hn : Ga.length = n) : Rn (gw G0 ad) Ga Y (kZ (kL b0 L xs) G0 0 ad n) d b pc ls [.int 1] I := by
  intro p e R s m args below meth c H locs cells slots tc ts Z F hk lsA hl
  obtain ⟨F1, ⟨hP, hD, hS⟩, F3, F4, F5, F6, F7, F8⟩ := F
  obtain ⟨⟨rfl, rfl, h3, h4, hX, hbl⟩, g1, g2, g3, g4⟩ := hk
  refine W.widen (k := 600002) (n := 7302232) (by omega) (by omega) (va_forget (fun q hq => ?_) ?_)
  · rcases hS.2.2 q hq with ⟨k, hk, e⟩ | h
    · have h1 := g2 k (Nat.zero_le _) (by omega)
      rw [show q.base = ad k from e]; exact h1
    · exact h
  · exact lw_retR F1.1 F1.2.1 (F1.2.2.2.1.trans hr) F1.2.2.2.2.1 hd
end LawRules
section Longs
variable {G : Gx} {kx : Kx} {Ga : List Shp} {Y : Ym} {d b pc pc' : Nat} {ls : List (Option Value)} {st : List Value} {I : Hi}
theorem Rn.lald {a n j : Nat} {f : Nat → Option Nat} (hd : decode Y.2.1 pc = .ok (.laload, 1)) (hG : Ga[a]? = some (.inr (.long, n, f))) (hj : j < n) (hn : n < 100000) (k : Rn G Ga Y kx d b pc' ls (.long (I a j).toInt64 :: st) I) (hp : pc + 1 = pc' := by rfl) : Rn G Ga Y kx d b pc ls (.int (nI j) :: .ref a :: st) I := by
  subst hp
  intro p e R s m args below meth c H locs cells slots tc ts Z F hk lsA hl
  refine va_lald F.1.1 F.1.2.1 F.1.2.2.2.2.2.2.2.1 F.2.1.1 a 2 (zws_get hG) rfl (vp_in_nI hj (show n < 2147483648 by omega)) hd ?_
  rw [nI_clamp (by omega)]
  exact k p e R s m args below meth c H locs cells slots tc ts Z F hk lsA hl
theorem Rn.last {a n j : Nat} {f : Nat → Option Nat} {x : Int32} (hd : decode Y.2.1 pc = .ok (.lastore, 1)) (hG : Ga[a]? = some (.inr (.long, n, f))) (hj : j < n) (hn : n < 100000) (k : Rn G Ga Y kx d b pc' ls st (zup I a j x)) (hp : pc + 1 = pc' := by rfl) : Rn G Ga Y kx d b pc ls (.long x.toInt64 :: .int (nI j) :: .ref a :: st) I := by
  subst hp
  intro p e R s m args below meth c H locs cells slots tc ts Z F hk lsA hl
  obtain ⟨F1, ⟨hP, hD, hS⟩, F3, F4, F5, F6, F7, F8, Fn⟩ := F
  refine va_last F1.1 F1.2.1 F1.2.2.2.2.2.2.2.1 hP hD hS a 2 (zws_get hG) rfl (vp_in_nI hj (show n < 2147483648 by omega)) hd (fun H1 locs1 hP1 hD1 hS1 => ?_)
  rw [nI_clamp (by omega)] at hP1 hD1
  have hu : vp_updL (fun q => (I a q).toInt64) j x.toInt64 = fun q => (upd (I a) j x q).toInt64 := by
    funext q
    simp only [vp_updL, upd]
    split <;> rfl
  have hP2 : va_P (gD G) vwCl ((zws Ga (gad G) (gA G) I).set a (gad G a, .inl (gA G .long, n, .inr (.inl (vp_updL (fun q => (I a q).toInt64) j x.toInt64))))) H1 := hP1
  have hD2 : va_D (zA G Ga s.heap.size) ((zws Ga (gad G) (gA G) I).set a (gad G a, .inl (gA G .long, n, .inr (.inl (vp_updL (fun q => (I a q).toInt64) j x.toInt64))))) := hD1
  rw [hu, zws_set hG (upd (I a) j x) (show (.inl (gA G .long, n, .inr (.inl (fun q => (upd (I a) j x q).toInt64))) : va_E) = zcell (gad G) (gA G) (upd (I a) j x) (.inr (.long, n, f)) from rfl)] at hP2 hD2
  exact k p e R s m args below meth c H1 locs1 cells slots tc ts Z ⟨F1, ⟨hP2, hD2, hS1⟩, F3, F4, F5, F6, F7, F8, Fn⟩ hk lsA hl
theorem Rn.lcmpE {x y : Int32} (hd : decode Y.2.1 pc = .ok (.lcmp, 1)) (h : x = y) (k : Rn G Ga Y kx d b pc' ls (.int (nI 0) :: st) I) (hp : pc + 1 = pc' := by rfl) : Rn G Ga Y kx d b pc ls (.long y.toInt64 :: .long x.toInt64 :: st) I := by
  subst hp
  subst h
  intro p e R s m args below meth c H locs cells slots tc ts Z F hk lsA hl
  refine W.lcmp F.1.1 F.1.2.1 hd ?_
  have h0 : lg_cmp x.toInt64 x.toInt64 = nI 0 := by simp [lg_cmp]; rfl
  rw [h0]
  exact k p e R s m args below meth c H locs cells slots tc ts Z F hk lsA hl
end Longs
theorem and63 (x : Int32) : ∃ k, k < 64 ∧ x &&& nI 63 = nI k := by
  refine ⟨(x &&& nI 63).toBitVec.toNat, ?_, ?_⟩
  · have h : (x &&& nI 63).toBitVec = x.toBitVec &&& 63#32 := rfl
    rw [h, BitVec.toNat_and]
    exact Nat.lt_of_le_of_lt Nat.and_le_right (by decide)
  · apply Int32.toBitVec_inj.mp
    show _ = BitVec.ofNat 32 _
    rw [BitVec.ofNat_toNat]; simp
def Z0 : Hi := fun _ _ => 0
def I0 : Hi := zup (zup (zup (zup (jB Z0) 94 14 (-1)) 95 5 (nI 5)) 95 6 (nI 20)) 95 8 (nI 1)
theorem jM_ne (I : Hi) : ∀ (j : Nat) {k : Nat}, 46 + 4 * j ≤ k → jM I j k = I k
  | 0, _, _ => rfl
  | j + 1, k, h => by show jC (jM I j) (46 + 4 * j) k = I k; rw [jC_ne _ (by omega), jM_ne I j (by omega)]
theorem jB_ne {k : Nat} (h : 94 ≤ k) : jB Z0 k = fun _ => 0 := by
  unfold jB
  rw [zup_ne _ _ (by omega), jM_ne _ 12 (by omega), zup_ne _ _ (by omega), zup_ne _ _ (by omega), zup_ne _ _ (by omega), zup_ne _ _ (by omega), zup_ne _ _ (by omega), jC_ne _ (by omega), jC_ne _ (by omega), jC_ne _ (by omega)]
  rfl
section LawStart
variable {G0 : Gx} {b0 L : Nat} {xs : Nat → Int32}
theorem law_end (h9 : gad G0 998 = b0) (ad : Nat → Nat) (x5 x6 : Option Value) (d b : Nat) (I : Hi) : Rn (gw G0 ad) GAM mL_law_ (kZ (kL b0 6 xs) G0 0 ad 108) d b 2720 [some (.ref 998), some (.ref 0), some (.ref 94), some (.ref 107), some (.int (nI 0)), x5, x6] [] I := by
  refine Rn.iinc (v := nI 6) dL_law__2720 rfl (by decide) (by decide) ?_
  refine Rn.goto 23 dL_law__2723 (by decide) ?_
  refine Rn.iload dL_law__23 rfl ?_
  refine Rn.aload_n dL_law__25 rfl rfl ?_
  refine Rn.slen dL_law__26 h9 rfl ?_
  refine Rn.bipush (v := (nI 6)) dL_law__27 rfl ?_
  refine Rn.isub dL_law__29 ?_
  refine Rn.icmp_gt (tgt := 2726) dL_law__30 (by decide) (fun _ => ?_) (fun h9 => absurd h9 (by decide))
  refine Rn.iconst (v := (nI 1)) dL_law__2726 rfl ?_
  exact Rn.lret dL_law__2727 rfl rfl
set_option maxHeartbeats 8000000 in
theorem law_start (h9 : gad G0 998 = b0) (ad : Nat → Nat) (hL : L ≤ 6) (cases : L = 6 → ∀ ad, Rn (gw G0 ad) GAM mL_law_ (kZ (kL b0 6 xs) G0 0 ad 108) 20 400000 40 [some (.ref 998), some (.ref 0), some (.ref 94), some (.ref 107), some (.int (nI 0)), none, none] [.int (xs 0 &&& nI 63)] I0) : Rn (gw G0 ad) [] mL_law_ (kZ (kL b0 L xs) G0 0 ad 0) 20 404008 0 [some (.ref 998), none, none, none, none, none, none] [] Z0 := by
  refine Rn.newY (n := 0) (k := 3) dL_law__0 nw_L_8 rfl (zOKb (by decide +kernel)) rfl (by decide +kernel) (by decide) (by decide) (by decide) (fun ad => ?_)
  refine Rn.wld (wB 0 0) rfl ?_
  refine Rn.dup dL_law__3 rfl ?_
  refine Rn.ctorY (mc := 2000) (n := 1) (n2 := 94) (As := []) dL_law__4 (Or.inl mi_L_126) rfl rfl rfl (Nat.le_of_ble_eq_true rfl) (cn_BL _ _ _ (fun k _ => rfl)) rfl rfl (by decide +kernel) (by decide) (by decide) (fun ad => ?_)
  refine Rn.astore_n dL_law__7 rfl (by decide) ?_
  refine Rn.newY (n := 94) (k := 4) dL_law__8 nw_L_127 rfl (zOKs 45 (by decide +kernel) rfl (by decide)) (jB_ne (by decide)) (by decide +kernel) (by decide) (by decide) (by decide) (fun ad => ?_)
  refine Rn.dup dL_law__11 rfl ?_
  refine Rn.ctorY (mc := 2000) (n := 95) (n2 := 107) (As := []) dL_law__12 (Or.inl mi_L_129) rfl rfl rfl (Nat.le_of_ble_eq_true rfl) (cn_Model _ _ _ (fun k hk => jB_ne hk)) rfl rfl (by decide +kernel) (by decide) (by decide) (fun ad => ?_)
  refine Rn.astore_n dL_law__15 rfl (by decide) ?_
  refine Rn.iconst (v := (nI 1)) dL_law__16 rfl ?_
  refine Rn.newaY (n := 107) (k := 1) (len := 1) dL_law__17 rfl (by decide) wi_1932 rfl (by decide) rfl (zOKs 45 (by decide +kernel) rfl (by decide)) (by rw [zup_ne _ _ (by decide), zup_ne _ _ (by decide), zup_ne _ _ (by decide), zup_ne _ _ (by decide)]; exact jB_ne (by decide)) (by decide +kernel) (by decide) (by decide) (by decide) (fun ad => ?_)
  refine Rn.astore_n dL_law__19 rfl (by decide) ?_
  refine Rn.wld GAM rfl ?_
  refine Rn.hpp I0 rfl ?_
  refine Rn.iconst (v := (nI 0)) dL_law__20 rfl ?_
  refine Rn.istore dL_law__21 (by decide) ?_
  refine Rn.iload dL_law__23 rfl ?_
  refine Rn.aload_n dL_law__25 rfl rfl ?_
  refine Rn.slen dL_law__26 h9 rfl ?_
  by_cases h6 : L = 6
  · subst h6
    refine Rn.bipush (v := (nI 6)) dL_law__27 rfl ?_
    refine Rn.isub dL_law__29 ?_
    refine Rn.icmp_gt (tgt := 2726) dL_law__30 (by decide) (fun h8 => absurd h8 (by decide)) (fun _ => ?_)
    refine Rn.aload_n dL_law__33 rfl rfl ?_
    refine Rn.iload dL_law__34 rfl ?_
    refine Rn.sld dL_law__36 h9 (by decide) (by decide) rfl ?_
    refine Rn.bipush (v := (nI 63)) dL_law__37 rfl ?_
    refine Rn.iand dL_law__39 ?_
    exact cases rfl ad
  · refine Rn.bipush (v := (nI 6)) dL_law__27 rfl ?_
    refine Rn.isub dL_law__29 ?_
    refine Rn.icmp_gt (tgt := 2726) dL_law__30 (by decide) (fun _ => ?_) (fun h8 => absurd ?_ h8)
    · refine Rn.iconst (v := (nI 1)) dL_law__2726 rfl ?_
      exact Rn.lret dL_law__2727 rfl rfl
    · have : L = 0 ∨ L = 1 ∨ L = 2 ∨ L = 3 ∨ L = 4 ∨ L = 5 := by omega
      rcases this with rfl | rfl | rfl | rfl | rfl | rfl <;> decide
end LawStart
