/-! the law's own rules -/
def kL (b L : Nat) (xs : Nat → Int32) : Kx := fun s args below _ tc ts Z => args = #[Value.ref b] ∧ Z = lw_Z below #[Value.ref b] s ∧ tc = 601024 ∧ ts = 7293034 ∧ va_X b L xs s s.heap ∧ b < s.heap.size
section LawRules
variable {G0 : Gx} {ad : Nat → Nat} {Ga : List Shp} {Y : Ym} {d b n b0 L pc pc' : Nat} {xs : Nat → Int32} {ls : List (Option Value)} {st : List Value} {I : Hi}
theorem zscr {s : State} (hn : Ga.length = n) (g2 : ∀ k, 0 ≤ k → k < n → s.heap.size ≤ ad k) (hb : b0 < s.heap.size) : ¬ zA (gw G0 ad) Ga s.heap.size b0 := by
  rintro (⟨k, hk, e⟩ | h)
  · have h1 := g2 k (Nat.zero_le _) (by omega)
    have e : b0 = ad k := e
    omega
  · omega
theorem Rn.sld {j : Nat} (hd : decode Y.2.1 pc = .ok (.iaload, 1)) (h9 : gad G0 998 = b0) (hj : j < L) (hL : L < 100000) (hn : Ga.length = n) (k : Rn (gw G0 ad) Ga Y (kZ (kL b0 L xs) G0 0 ad n) d b pc' ls (.int (xs j) :: st) I) (hp : pc + 1 = pc' := by rfl) : Rn (gw G0 ad) Ga Y (kZ (kL b0 L xs) G0 0 ad n) d b pc ls (.int (nI j) :: .ref 998 :: st) I := by
  subst hp
  intro p e R s m args below meth c H locs cells slots tc ts Z F hk lsA hl
  have kk := k p e R s m args below meth c H locs cells slots tc ts Z F hk lsA hl
  obtain ⟨⟨-, -, -, -, hX, hbl⟩, g1, g2, g3, g4⟩ := hk
  have hb : ad 998 = b0 := (g1 998 (Or.inr (by omega))).trans h9
  refine va_sld (b := ad 998) (L := L) (xs := xs) F.1.1 F.1.2.1 (by rw [hb]; exact hX) (by rw [hb]; exact hbl) (by rw [hb]; exact zscr hn g2 hbl) F.2.1.2.2 (vp_in_nI hj (by omega)) hd ?_
  rw [nI_clamp (by omega)]
  exact kk
theorem Rn.slen (hd : decode Y.2.1 pc = .ok (.arraylength, 1)) (h9 : gad G0 998 = b0) (hn : Ga.length = n) (k : Rn (gw G0 ad) Ga Y (kZ (kL b0 L xs) G0 0 ad n) d b pc' ls (.int (nI L) :: st) I) (hp : pc + 1 = pc' := by rfl) : Rn (gw G0 ad) Ga Y (kZ (kL b0 L xs) G0 0 ad n) d b pc ls (.ref 998 :: st) I := by
  subst hp
  intro p e R s m args below meth c H locs cells slots tc ts Z F hk lsA hl
  have kk := k p e R s m args below meth c H locs cells slots tc ts Z F hk lsA hl
  obtain ⟨⟨-, -, -, -, hX, hbl⟩, g1, g2, g3, g4⟩ := hk
  have hb : ad 998 = b0 := (g1 998 (Or.inr (by omega))).trans h9
  exact va_slen (b := ad 998) (L := L) (xs := xs) F.1.1 F.1.2.1 (by rw [hb]; exact hX) (by rw [hb]; exact hbl) (by rw [hb]; exact zscr hn g2 hbl) F.2.1.2.2 hd kk
theorem Rn.lret (hd : decode Y.2.1 pc = .ok (.ireturn, 1)) (hr : Y.2.2.2 = some .boolean) (hn : Ga.length = n) : Rn (gw G0 ad) Ga Y (kZ (kL b0 L xs) G0 0 ad n) d b pc ls [.int 1] I := by
  intro p e R s m args below meth c H locs cells slots tc ts Z F hk lsA hl
  obtain ⟨F1, ⟨hP, hD, hS⟩, F3, F4, F5, F6, F7, F8⟩ := F
  obtain ⟨⟨rfl, rfl, h3, h4, hX, hbl⟩, g1, g2, g3, g4⟩ := hk
  refine W.widen (k := 601024) (n := 7293034) (by omega) (by omega) (va_forget (fun q hq => ?_) ?_)
  · rcases hS.2.2 q hq with ⟨k, hk, e⟩ | h
    · have h1 := g2 k (Nat.zero_le _) (by omega)
      rw [show q.base = ad k from e]; exact h1
    · exact h
  · exact lw_retR F1.1 F1.2.1 (F1.2.2.2.1.trans hr) F1.2.2.2.2.1 hd
end LawRules
section Longs
variable {G : Gx} {kx : Kx} {Ga : List Shp} {Y : Ym} {d b pc pc' : Nat} {ls : List (Option Value)} {st : List Value} {I : Hi}
theorem Rn.lald {a n j : Nat} {f : Nat → Option Nat} (hd : decode Y.2.1 pc = .ok (.laload, 1)) (hG : Ga[a]? = some (.inr (.long, n, f))) (hj : j < n) (hn : n < 100000) (k : Rn G Ga Y kx d b pc' ls (.long (I a j).toInt64 :: st) I) (hp : pc + 1 = pc' := by rfl) : Rn G Ga Y kx d b pc ls (.int (nI j) :: .ref a :: st) I := by
  subst hp
  intro p e R s m args below meth c H locs cells slots tc ts Z F hk lsA hl
  refine va_lald F.1.1 F.1.2.1 F.1.2.2.2.2.2.2.2.1 F.2.1.1 a 2 (zws_get hG) rfl (vp_in_nI hj (show n < 2147483648 by omega)) hd ?_
  rw [nI_clamp (by omega)]
  exact k p e R s m args below meth c H locs cells slots tc ts Z F hk lsA hl
theorem Rn.last {a n j : Nat} {f : Nat → Option Nat} {x : Int32} (hd : decode Y.2.1 pc = .ok (.lastore, 1)) (hG : Ga[a]? = some (.inr (.long, n, f))) (hj : j < n) (hn : n < 100000) (k : Rn G Ga Y kx d b pc' ls st (zup I a j x)) (hp : pc + 1 = pc' := by rfl) : Rn G Ga Y kx d b pc ls (.long x.toInt64 :: .int (nI j) :: .ref a :: st) I := by
  subst hp
  intro p e R s m args below meth c H locs cells slots tc ts Z F hk lsA hl
  obtain ⟨F1, ⟨hP, hD, hS⟩, F3, F4, F5, F6, F7, F8, Fn⟩ := F
  refine va_last F1.1 F1.2.1 F1.2.2.2.2.2.2.2.1 hP hD hS a 2 (zws_get hG) rfl (vp_in_nI hj (show n < 2147483648 by omega)) hd (fun H1 locs1 hP1 hD1 hS1 => ?_)
  rw [nI_clamp (by omega)] at hP1 hD1
  have hu : vp_updL (fun q => (I a q).toInt64) j x.toInt64 = fun q => (upd (I a) j x q).toInt64 := by
    funext q
    simp only [vp_updL, upd]
    split <;> rfl
  have hP2 : va_P (gD G) vwCl ((zws Ga (gad G) (gA G) I).set a (gad G a, .inl (gA G .long, n, .inr (.inl (vp_updL (fun q => (I a q).toInt64) j x.toInt64))))) H1 := hP1
  have hD2 : va_D (zA G Ga s.heap.size) ((zws Ga (gad G) (gA G) I).set a (gad G a, .inl (gA G .long, n, .inr (.inl (vp_updL (fun q => (I a q).toInt64) j x.toInt64))))) := hD1
  rw [hu, zws_set hG (upd (I a) j x) (show (.inl (gA G .long, n, .inr (.inl (fun q => (upd (I a) j x q).toInt64))) : va_E) = zcell (gad G) (gA G) (upd (I a) j x) (.inr (.long, n, f)) from rfl)] at hP2 hD2
  exact k p e R s m args below meth c H1 locs1 cells slots tc ts Z ⟨F1, ⟨hP2, hD2, hS1⟩, F3, F4, F5, F6, F7, F8, Fn⟩ hk lsA hl
theorem Rn.lcmpE {x y : Int32} (hd : decode Y.2.1 pc = .ok (.lcmp, 1)) (h : x = y) (k : Rn G Ga Y kx d b pc' ls (.int (nI 0) :: st) I) (hp : pc + 1 = pc' := by rfl) : Rn G Ga Y kx d b pc ls (.long y.toInt64 :: .long x.toInt64 :: st) I := by
  subst hp
  subst h
  intro p e R s m args below meth c H locs cells slots tc ts Z F hk lsA hl
  refine W.lcmp F.1.1 F.1.2.1 hd ?_
  have h0 : lg_cmp x.toInt64 x.toInt64 = nI 0 := by simp [lg_cmp]; rfl
  rw [h0]
  exact k p e R s m args below meth c H locs cells slots tc ts Z F hk lsA hl
end Longs
theorem and63 (x : Int32) : ∃ k, k < 64 ∧ x &&& nI 63 = nI k := by
  refine ⟨(x &&& nI 63).toBitVec.toNat, ?_, ?_⟩
  · have h : (x &&& nI 63).toBitVec = x.toBitVec &&& 63#32 := rfl
    rw [h, BitVec.toNat_and]
    exact Nat.lt_of_le_of_lt Nat.and_le_right (by decide)
  · apply Int32.toBitVec_inj.mp
    show _ = BitVec.ofNat 32 _
    rw [BitVec.ofNat_toNat]; simp
