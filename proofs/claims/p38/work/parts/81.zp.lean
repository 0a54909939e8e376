/-! coast, law, undo, image, back: what both sides have done together -/
theorem bx_hi {I J : Hi} (hB : BX I) (P : Nat → Prop) (ht : J 1 1 = nI 0 ∨ J 1 1 = I 1 1) (h11 : inIv (0, 1) (J 0 11)) (hP : ∀ a, P a → 2 ≤ a ∧ a < 94 ∧ a ≠ 39) (hf : ∀ a, a ≠ 0 → a ≠ 1 → ¬ P a → J a = I a) : BX J := by
  intro c j
  by_cases h0 : c = 0
  · subst h0
    by_cases hj : j = 11
    · subst hj; exact h11
    · have : hxB 0 j = ivF := by
        unfold hxB
        rw [if_pos (by decide), if_neg (by omega), if_neg (by omega), if_neg (by omega)]
      rw [this]; exact inIv_F _
  · by_cases h1 : c = 1
    · subst h1
      by_cases hj : j = 1
      · subst hj
        rcases ht with h9 | h9
        · rw [h9]; exact iv_nI (n := 400) (by decide) (by decide)
        · rw [h9]; exact hB 1 1
      · have : hxB 1 j = ivF := by
          unfold hxB
          rw [if_pos (by decide), if_neg (by omega), if_neg (by omega), if_neg (by omega)]
        rw [this]; exact inIv_F _
    · by_cases h2 : P c
      · obtain ⟨a1, a2, a3⟩ := hP c h2
        have : hxB c j = ivF := by
          unfold hxB
          rw [if_pos (by omega), if_neg (by omega), if_neg (by omega), if_neg (by omega)]
        rw [this]; exact inIv_F _
      · rw [hf c h0 h1 h2]; exact hB c j
theorem XC5.bx {I J : Hi} {g : Nat ⊕ (Cs × Nat)} {o : Rs} (hB : BX I) (h : XC5 I g o J) : BX J :=
  bx_hi hB (fun a => (3 ≤ a ∧ a ≤ 10) ∨ a = 44) (Or.inl h.1) (by rw [h.2.2.1]; exact hB 0 11) (fun a h => by omega) (fun a a1 a2 a3 => h.2.1 a a1 a2 (fun z => a3 (Or.inl z)) (fun z => a3 (Or.inr z)))
theorem XL5.bx {I J : Hi} {g : Go} {o : Rs} (hB : BX I) (h : XL5 I g o J) : BX J :=
  bx_hi hB (fun a => (16 ≤ a ∧ a ≤ 36) ∨ a = 44) (Or.inl h.1) (by rw [h.2.2.1]; exact hB 0 11) (fun a h => by omega) (fun a a1 a2 a3 => h.2.1 a a1 a2 (fun z => a3 (Or.inl z)) (fun z => a3 (Or.inr z)))
theorem BX.no107 {J0 J : Hi} (h : BX J0) (hJ : ∀ a, a ≠ 107 → J a = J0 a) : BX J := by
  intro c j
  by_cases e : c = 107
  · subst e
    rw [(hxT_ok (c := 107) (by decide) j).1]
    exact inIv_F _
  · rw [hJ c e]; exact h c j
/-- what a wrapper of the law's makes of an answer -/
def Wr (o : Rs) (v : Int32) (J0 J : Hi) : Prop := (∀ a, a ≠ 107 → J a = J0 a) ∧ ((∃ x, o = .inl (some (.int x)) ∧ v = nI 0 ∧ J 107 0 = x) ∨ (o = .inr "java/lang/IllegalArgumentException" ∧ v = nI 1) ∨ (o = .inr "java/lang/UnsupportedOperationException" ∧ v = nI 2))
/-- the tape's text is told, on both sides -/
def TT (I : Hi) (c : Nat → Nat) (e : Nat) : Prop := e ≤ 400 ∧ I 1 1 = nI e ∧ I 94 9 = nI e ∧ ∀ i, i < e → c i < 256 ∧ I 2 i = nI (c i) ∧ I 100 i = sb (c i)
def CoA (I : Hi) (v : Int32) (J : Hi) : Prop := LI I ∧ ∃ (c : Nat → Nat) (e w t : Nat) (b : Nat → Int32) (J0 : Hi) (o : Rs), TT I c e ∧ w ≤ 8 ∧ t ≤ 8 ∧ I 95 0 = nI w ∧ I 95 1 = nI t ∧ (∀ k, k < t → I 95 (73 + 9 * k) = b k) ∧ XC5 I (cCoast c e (w, t, b)) o J0 ∧ Wr o v J0 J
def LaA (I : Hi) (v : Int32) (J : Hi) : Prop := LI I ∧ ∃ (c : Nat → Nat) (e : Nat) (J0 : Hi) (o : Rs), TT I c e ∧ XL5 I (gLaw c e) o J0 ∧ Wr o v J0 J
theorem le12 {n : Nat} (h : n ≤ 12) : nI n < nI 12 ↔ n < 12 := by
  rw [Int32.lt_iff_toInt_lt, nI_toInt (by omega), nI_toInt (by omega)]
  omega
theorem co_both {I J0 J K : Hi} {gg : Nat ⊕ (Cs × Nat)} {o o2 : Rs} {v : Int32} (hI : LI I) (C : XC5 I gg o J0) (hW : Wr o v J0 J) (L : LC5 J gg o2 K) : LI K ∧ K 94 0 = v ∧ (v = nI 0 → o2 = .inl (some (.int (K 107 0)))) := by
  obtain ⟨hB, ⟨hXM, hMC, hMR⟩, h38, h37, hT, h11, h12, hq, hq2⟩ := hI
  obtain ⟨c1, cf, c11, cc⟩ := C
  obtain ⟨-, lB, lX, l6, l9, lf, ll⟩ := L
  obtain ⟨hJ, hv⟩ := hW
  have kf : ∀ a, a ≠ 94 → a ≠ 95 → a ≠ 97 → a ≠ 107 → K a = J0 a := fun a a1 a2 a3 a4 => (lf a a1 a2 a3).trans (hJ a a4)
  have j94 : J 94 = I 94 := (hJ 94 (by decide)).trans (cf 94 (by decide) (by decide) (by decide) (by decide))
  have j95 : J 95 = I 95 := (hJ 95 (by decide)).trans (cf 95 (by decide) (by decide) (by decide) (by decide))
  have kI : ∀ a, a ≠ 0 → a ≠ 1 → ¬ (3 ≤ a ∧ a ≤ 10) → a ≠ 44 → a ≠ 94 → a ≠ 95 → a ≠ 97 → a ≠ 107 → K a = I a := fun a b1 b2 b3 b4 b5 b6 b7 b8 => (kf a b5 b6 b7 b8).trans (cf a b1 b2 b3 b4)
  have ko : ∀ a, (11 ≤ a ∧ a ≤ 43) ∨ (45 ≤ a ∧ a ≤ 93) ∨ a = 96 ∨ a = 99 → K a = I a := fun a ha => kI a (by omega) (by omega) (by omega) (by omega) (by omega) (by omega) (by omega) (by omega)
  have k0 : K 0 = J0 0 := kf 0 (by decide) (by decide) (by decide) (by decide)
  have k44 : K 44 = J0 44 := kf 44 (by decide) (by decide) (by decide) (by decide)
  have k3 : K 3 = J0 3 := kf 3 (by decide) (by decide) (by decide) (by decide)
  have k5 : K 5 = J0 5 := kf 5 (by decide) (by decide) (by decide) (by decide)
  have base : K 0 12 = K 94 14 → MC K → MR K → CQ K 3 95 → LI K := fun a1 a2 a3 a4 => ⟨lB, ⟨lX, a2, a3⟩, by rw [ko 38 (by decide)]; exact h38, by rw [ko 37 (by decide)]; exact h37, TE.nil (by rw [kf 1 (by decide) (by decide) (by decide) (by decide)]; exact c1) l9, by rw [k0, c11, l6, j94]; exact h11, a1, a4, hq2.of (fun j _ => by rw [ko 11 (by decide)]) (fun j _ => show K 13 _ = I 13 _ by rw [ko 13 (by decide)]) (fun j _ => by rw [ko 96 (by decide)])⟩
  have fmc : J0 44 = I 44 → (∀ a, 3 ≤ a → a ≤ 6 → J0 a = I a) → MC K := fun a1 a2 => hMC.of (by rw [k44, a1]) (by rw [k44, a1]) (fun a b1 b2 => ko a (by omega)) (fun i _ => by rw [k3, a2 3 (by decide) (by decide)]) (fun i _ => by rw [k5, a2 5 (by decide) (by decide)])
  have fmr : K 94 7 = J 94 7 → (∀ j, j < 1226 → K 95 j = J 95 j) → MR K := fun a1 a2 => hMR.of (by rw [a1, j94]) (ko 99 (by decide)) (fun j hj => by rw [a2 j (by have := hj.lt; omega), j95])
  have fcq : (∀ a, 3 ≤ a → a ≤ 6 → J0 a = I a) → (∀ j, j < 1226 → K 95 j = J 95 j) → CQ K 3 95 := fun a1 a2 => hq.of (fun j _ => by rw [k3, a1 3 (by decide) (by decide)]) (fun j _ => show K 5 _ = I 5 _ by rw [k5, a1 5 (by decide) (by decide)]) (fun j hj => by rw [a2 j (by have := hj.lt; omega), j95])
  obtain ⟨w, t, n, hw, ht, hn, q1, q2, q3, q4, q5, q6, q7⟩ := id hq
  rcases cc with ⟨x, hx, hg, ho, hf, h44, h36⟩ | ⟨st2, n2, hg, hlt, ho, hf, h44, h36⟩ | ⟨st2, n2, hg, hlt, ho, hf, h441, h442, e0, e1, e2, e5⟩
  · rcases ll with ⟨x', hx', hg', t0, t14, t7, t95⟩ | ⟨st', n', hg', -⟩ | ⟨st', n', hg', -⟩
    rotate_left
    · exact nomatch hg.symm.trans hg'
    · exact nomatch hg.symm.trans hg'
    obtain rfl : x = x' := Sum.inl.inj (hg.symm.trans hg')
    refine ⟨base (by rw [k0, hf, t14]) (fmc h44 h36) (fmr t7 t95) (fcq h36 t95), ?_⟩
    subst ho
    rcases hv with ⟨y, hy, -⟩ | ⟨-, rfl⟩ | ⟨hy, -⟩
    · exact nomatch hy
    · exact ⟨t0, fun z => absurd z (by decide)⟩
    · exact absurd (Sum.inr.inj hy) (by decide)
  · rcases ll with ⟨x', hx', hg', -⟩ | ⟨st', n', hg', hfull, t0, t14, t7, t95⟩ | ⟨st', n', hg', hnf, -⟩
    · exact nomatch hg.symm.trans hg'
    · refine ⟨base (by rw [k0, hf, t14]) (fmc h44 h36) (fmr t7 t95) (fcq h36 t95), ?_⟩
      subst ho
      rcases hv with ⟨y, hy, -⟩ | ⟨hy, -⟩ | ⟨-, rfl⟩
      · exact nomatch hy
      · exact absurd (Sum.inr.inj hy) (by decide)
      · exact ⟨t0, fun z => absurd z (by decide)⟩
    · rw [j95, q6] at hnf
      rw [q5, le12 hn] at hlt
      obtain rfl : n = 12 := by omega
      exact absurd rfl hnf
  · rcases ll with ⟨x', hx', hg', -⟩ | ⟨st', n', hg', hfull, -⟩ | ⟨st', n', hg', hnf, ho2, t0, t14, t7, r0, r1, r2, r3, w8, t8⟩
    · exact nomatch hg.symm.trans hg'
    · rw [j95, q6] at hfull
      rw [q5, le12 hn] at hlt
      have := (nI_eq (by omega) (by omega)).mp hfull
      omega
    · have e := Sum.inr.inj (hg.symm.trans hg')
      obtain ⟨rfl, rfl⟩ := Prod.mk.inj e
      rw [q5, le12 hn] at hlt
      obtain ⟨m, s, hm, hs, g2, g1, gk⟩ := hMC
      refine ⟨base (by rw [k0, hf, t14]) ⟨m, 0, hm, by decide, by rw [k44, h442]; exact g2, by rw [k44]; exact h441, fun k hk => absurd hk (by omega)⟩ ⟨0, by decide, t7, fun k hk => absurd hk (by omega)⟩ ⟨st2.1, st2.2.1, n + 1, w8, t8, by omega, by rw [k3]; exact e0, r0, by rw [k3]; exact e1, r1, by rw [k3, e2, q5]; exact nI_1 n, by rw [r2, j95, q6]; exact nI_1 n, fun k hk => by rw [r3 k hk]; show K 5 _ = _; rw [k5]; exact e5 k hk⟩, ?_⟩
      subst ho
      rcases hv with ⟨y, hy, rfl, h107⟩ | ⟨hy, -⟩ | ⟨hy, -⟩
      · refine ⟨t0, fun _ => ?_⟩
        have hy := Value.int.inj (Option.some.inj (Sum.inl.inj hy))
        rw [ho2, lf 107 (by decide) (by decide) (by decide), h107, ← hy, j95, q6, q5]
      · exact nomatch hy
      · exact nomatch hy
theorem la_both {I J0 J K : Hi} {gg : Go} {o o2 : Rs} {v : Int32} (hI : LI I) (C : XL5 I gg o J0) (hW : Wr o v J0 J) (L : LQ5 J gg o2 K) : LI K := by
  obtain ⟨hB, ⟨hXM, hMC, hMR⟩, h38, h37, hT, h11, h12, hq, hq2⟩ := hI
  obtain ⟨c1, cf, c11, cc⟩ := C
  obtain ⟨⟨-, lB, lX, l6, l9, -⟩, lf, l95, ll⟩ := L
  obtain ⟨hJ, hv⟩ := hW
  have kf : ∀ a, a ≠ 94 → a ≠ 95 → a ≠ 107 → K a = J0 a := fun a a1 a2 a4 => (lf a a1 a2).trans (hJ a a4)
  have j94 : J 94 = I 94 := (hJ 94 (by decide)).trans (cf 94 (by decide) (by decide) (by decide) (by decide))
  have j95 : J 95 = I 95 := (hJ 95 (by decide)).trans (cf 95 (by decide) (by decide) (by decide) (by decide))
  have ko : ∀ a, (2 ≤ a ∧ a ≤ 15) ∨ (37 ≤ a ∧ a ≤ 43) ∨ (45 ≤ a ∧ a ≤ 93) ∨ a = 96 ∨ a = 99 → K a = I a := fun a ha => (kf a (by omega) (by omega) (by omega)).trans (cf a (by omega) (by omega) (by omega) (by omega))
  have k0 : K 0 = J0 0 := kf 0 (by decide) (by decide) (by decide)
  have k44 : K 44 = J0 44 := kf 44 (by decide) (by decide) (by decide)
  have k95 : ∀ j, D95 j → K 95 j = I 95 j := fun j hj => by rw [l95 j (by have := hj; unfold D95 at this; omega) (by have := hj; unfold D95 at this; omega), j95]
  have base : K 0 12 = K 94 14 → MC K → MR K → LI K := fun a1 a2 a3 => ⟨lB, ⟨lX, a2, a3⟩, by rw [ko 38 (by decide)]; exact h38, by rw [ko 37 (by decide)]; exact h37, TE.nil (by rw [kf 1 (by decide) (by decide) (by decide)]; exact c1) l9, by rw [k0, c11, l6, j94]; exact h11, a1, hq.of (fun j _ => by rw [ko 3 (by decide)]) (fun j _ => show K 5 _ = I 5 _ by rw [ko 5 (by decide)]) k95, hq2.of (fun j _ => by rw [ko 11 (by decide)]) (fun j _ => show K 13 _ = I 13 _ by rw [ko 13 (by decide)]) (fun j _ => by rw [ko 96 (by decide)])⟩
  rcases cc with ⟨n, hn, hg, ho, hf, h441, h442⟩ | ⟨x, hx, hg, ho, hf, h44⟩
  · rcases ll with ⟨n', hn', hg', ho2, t0, t14, t7⟩ | ⟨x', hx', hg', -⟩
    · obtain ⟨m, s, hm, hs, g2, g1, gk⟩ := hMC
      exact base (by rw [k0, hf, t14]) ⟨m, 0, hm, by decide, by rw [k44, h442]; exact g2, by rw [k44]; exact h441, fun k hk => absurd hk (by omega)⟩ ⟨0, by decide, t7, fun k hk => absurd hk (by omega)⟩
    · exact nomatch hg.symm.trans hg'
  · rcases ll with ⟨n', hn', hg', -⟩ | ⟨x', hx', hg', t0, t14, t7⟩
    · exact nomatch hg.symm.trans hg'
    · obtain rfl : x = x' := Sum.inl.inj (hg.symm.trans hg')
      exact base (by rw [k0, hf, t14]) (hMC.of (by rw [k44, h44]) (by rw [k44, h44]) (fun a b1 b2 => ko a (by omega)) (fun i _ => by rw [ko 3 (by decide)]) (fun i _ => by rw [ko 5 (by decide)])) (hMR.of (by rw [t7, j94]) (ko 99 (by decide)) k95)
/-- undo of the class, then of the reference -/
def UnA (I : Hi) (J : Hi) : Prop := LI I ∧ MC J ∧ (∀ i, i < 3 → J 3 i = I 3 i) ∧ (∀ i, i < 8 → J 5 (9 * i + 8) = I 5 (9 * i + 8)) ∧ ∀ a, ¬ (3 ≤ a ∧ a ≤ 6) → a ≠ 44 → J a = I a
theorem UnA.bx {I J : Hi} (h : UnA I J) : BX J :=
  bx_hi h.1.1 (fun a => (3 ≤ a ∧ a ≤ 6) ∨ a = 44) (Or.inr (by rw [h.2.2.2.2 1 (by decide) (by decide)])) (by rw [h.2.2.2.2 0 (by decide) (by decide)]; exact h.1.1 0 11) (fun a h => by omega) (fun a _ _ a3 => h.2.2.2.2 a (fun z => a3 (Or.inl z)) (fun z => a3 (Or.inr z)))
theorem un_both {I J K : Hi} (h : UnA I J) (hB : BX K) (hX : XM K) (h6 : K 94 6 = J 94 6) (h9 : K 94 9 = J 94 9) (h14 : K 94 14 = J 94 14) (hm : MR K) (h95 : ∀ j, D95 j → K 95 j = J 95 j) (hc : ∀ a, a ≠ 94 → a ≠ 95 → K a = J a) : LI K := by
  obtain ⟨⟨-, -, h38, h37, ⟨c, e, he, t1, t9, hb⟩, f1, f2, cq1, cq2⟩, u1, u2, u3, u4⟩ := h
  have q : ∀ a, ¬ (3 ≤ a ∧ a ≤ 6) → a ≠ 44 → a ≠ 94 → a ≠ 95 → K a = I a := fun a a1 a2 a3 a4 => (hc a a3 a4).trans (u4 a a1 a2)
  have j94 : J 94 = I 94 := u4 94 (by decide) (by decide)
  have j95 : J 95 = I 95 := u4 95 (by decide) (by decide)
  have qm : ∀ a, a ≠ 94 → a ≠ 95 → K a = J a := hc
  exact ⟨hB, ⟨hX, u1.of (by rw [qm 44 (by decide) (by decide)]) (by rw [qm 44 (by decide) (by decide)]) (fun a _ _ => qm a (by omega) (by omega)) (fun i _ => by rw [qm 3 (by decide) (by decide)]) (fun i _ => by rw [qm 5 (by decide) (by decide)]), hm⟩, by rw [q 38 (by decide) (by decide) (by decide) (by decide)]; exact h38, by rw [q 37 (by decide) (by decide) (by decide) (by decide)]; exact h37, ⟨c, e, he, by rw [q 1 (by decide) (by decide) (by decide) (by decide)]; exact t1, by rw [h9, j94]; exact t9, fun i hi => ⟨(hb i hi).1, by rw [q 2 (by decide) (by decide) (by decide) (by decide)]; exact (hb i hi).2.1, by rw [q 100 (by decide) (by decide) (by decide) (by decide)]; exact (hb i hi).2.2⟩⟩, by rw [q 0 (by decide) (by decide) (by decide) (by decide), h6, j94]; exact f1, by rw [q 0 (by decide) (by decide) (by decide) (by decide), h14, j94]; exact f2, cq1.of (fun j hj => by rw [qm 3 (by decide) (by decide)]; exact u2 j hj) (fun j hj => show K 5 _ = I 5 _ by rw [qm 5 (by decide) (by decide)]; exact u3 j hj) (fun j hj => by rw [h95 j hj, j95]), cq2.of (fun j _ => by rw [q 11 (by decide) (by decide) (by decide) (by decide)]) (fun j _ => show K 13 _ = I 13 _ by rw [q 13 (by decide) (by decide) (by decide) (by decide)]) (fun j _ => by rw [q 96 (by decide) (by decide) (by decide) (by decide)])⟩
theorem undo_ok {I : Hi} (hB : BX I) (hX : XM I) (r : Nat) (hr : r ≤ 12) : BX (undoI I r) ∧ XM (undoI I r) := by
  unfold undoI
  by_cases e : r = 0
  · rw [if_pos e]
    exact ⟨BX.thr hB _, XM.up hX (by decide)⟩
  · rw [if_neg e]
    refine ⟨BX.set (BX.up (a := 94) (j := 7) (BX.thr hB _) (iv_nI (n := 12) (by omega) (by decide))) (fun j => ?_), ⟨?_, ?_⟩⟩
    · simp only [cp]
      split
      · rename_i hj
        have h99 : inIv (wbx ((377 * (r - 1) + j) % 377)) (I 99 (377 * (r - 1) + j)) := hB 99 (377 * (r - 1) + j)
        rw [wbx_mod (r := r - 1) (by omega) (by omega), show 377 * (r - 1) + j - 377 * (r - 1) = j by omega] at h99
        rw [hxB_w (by decide) (by decide), if_pos hj]
        exact h99
      · exact hB 95 j
    · rw [zset_at]
      exact hX.1.of (fun j h1 h2 => by simp only [cp]; rw [if_neg (by omega)])
    · rw [zset_ne _ _ (by decide), zup_ne _ _ (by decide), zup_ne _ _ (by decide)]
      exact hX.2
/-- image of the class -/
def ImA (I J : Hi) : Prop := LI I ∧ (∀ j, j < 9 → J 11 j = I 3 j) ∧ (∀ j, j < 72 → J 13 j = I 5 j) ∧ J 0 11 = nI 1 ∧ (∀ j, j ≠ 11 → J 0 j = I 0 j) ∧ ∀ a, a ≠ 0 → ¬ (11 ≤ a ∧ a ≤ 14) → ¬ (30 ≤ a ∧ a ≤ 36) → J a = I a
theorem ImA.bx {I J : Hi} (h : ImA I J) : BX J :=
  bx_hi h.1.1 (fun a => (11 ≤ a ∧ a ≤ 14) ∨ (30 ≤ a ∧ a ≤ 36)) (Or.inr (by rw [h.2.2.2.2.2 1 (by decide) (by decide) (by decide)])) (by rw [h.2.2.2.1]; exact iv_nI (n := 1) (by decide) (by decide)) (fun a h => by omega) (fun a a1 _ a3 => h.2.2.2.2.2 a a1 (fun z => a3 (Or.inl z)) (fun z => a3 (Or.inr z)))
theorem im_both {I J : Hi} (h : ImA I J) : LI (zup (zset (zup J 94 0 (nI 0)) 96 (cp (J 95) (J 96) 1226)) 94 6 (nI 1)) := by
  have hB := h.bx
  obtain ⟨⟨-, ⟨hX, hMC, hMR⟩, h38, h37, ⟨c, e, he, t1, t9, hb⟩, f1, f2, cq1, cq2⟩, u1, u2, u3, u4, u5⟩ := h
  have q : ∀ a, a = 1 ∨ a = 2 ∨ (3 ≤ a ∧ a ≤ 10) ∨ (37 ≤ a ∧ a ≤ 93) ∨ a = 95 ∨ a = 99 ∨ a = 100 → (zup (zset (zup J 94 0 (nI 0)) 96 (cp (J 95) (J 96) 1226)) 94 6 (nI 1)) a = I a := fun a ha => by
    rw [zup_ne _ _ (by omega), zset_ne _ _ (by omega), zup_ne _ _ (by omega)]
    exact u5 a (by omega) (by omega) (by omega)
  have q0 : ∀ a, a ≠ 94 → a ≠ 96 → (zup (zset (zup J 94 0 (nI 0)) 96 (cp (J 95) (J 96) 1226)) 94 6 (nI 1)) a = J a := fun a a1 a2 => by rw [zup_ne _ _ a1, zset_ne _ _ a2, zup_ne _ _ a1]
  have j94 : J 94 = I 94 := u5 94 (by decide) (by decide) (by decide)
  have j95 : J 95 = I 95 := u5 95 (by decide) (by decide) (by decide)
  have q9 : ∀ j, j ≠ 0 → j ≠ 6 → (zup (zset (zup J 94 0 (nI 0)) 96 (cp (J 95) (J 96) 1226)) 94 6 (nI 1)) 94 j = I 94 j := fun j a1 a2 => by rw [zup_at, upd_ne _ _ a2, zset_ne _ _ (by decide), zup_at, upd_ne _ _ a1, j94]
  have q96 : ∀ j, j < 1226 → (zup (zset (zup J 94 0 (nI 0)) 96 (cp (J 95) (J 96) 1226)) 94 6 (nI 1)) 96 j = I 95 j := fun j hj => by rw [zup_ne _ _ (by decide), zset_at]; simp only [cp]; rw [if_pos hj, j95]
  refine ⟨BX.up (BX.set (BX.thr hB _) (fun j => BX.copy hB (by decide) (by decide) (by decide) (by decide) j)) (iv_nI (n := 1) (by decide) (by decide)), ⟨⟨by rw [q 95 (by decide)]; exact hX.1, hX.1.of (fun j _ h2 => q96 j h2)⟩, hMC.of (by rw [q 44 (by decide)]) (by rw [q 44 (by decide)]) (fun a _ _ => q a (by omega)) (fun i _ => by rw [q 3 (by decide)]) (fun i _ => by rw [q 5 (by decide)]), hMR.of (q9 7 (by decide) (by decide)) (q 99 (by decide)) (fun j _ => by rw [q 95 (by decide)])⟩, by rw [q 38 (by decide)]; exact h38, by rw [q 37 (by decide)]; exact h37, ⟨c, e, he, by rw [q 1 (by decide)]; exact t1, by rw [q9 9 (by decide) (by decide)]; exact t9, fun i hi => ⟨(hb i hi).1, by rw [q 2 (by decide)]; exact (hb i hi).2.1, by rw [q 100 (by decide)]; exact (hb i hi).2.2⟩⟩, by rw [q0 0 (by decide) (by decide), u3, zup_at, upd_at], by rw [q0 0 (by decide) (by decide), u4 12 (by decide), q9 14 (by decide) (by decide)]; exact f2, cq1.of (fun j _ => by rw [q 3 (by decide)]) (fun j _ => congrFun (q 5 (by decide)) _) (fun j _ => by rw [q 95 (by decide)]), cq1.of (fun j hj => by rw [q0 11 (by decide) (by decide)]; exact u1 j (by omega)) (fun j hj => ?_) (fun j hj => q96 j (by have := hj.lt; omega))⟩
  have z := q0 13 (by decide) (by decide)
  exact (congrFun z _).trans (u2 (9 * j + 8) (by omega))
/-- back of the class -/
def BaA (I J : Hi) : Prop := LI I ∧ ((I 0 11 = nI 0 ∧ J = I) ∨ (I 0 11 = nI 1 ∧ (∀ j, j < 9 → J 3 j = I 11 j) ∧ (∀ j, j < 72 → J 5 j = I 13 j) ∧ J 44 1 = nI 0 ∧ J 44 2 = I 44 2 ∧ ∀ a, ¬ (3 ≤ a ∧ a ≤ 6) → ¬ (16 ≤ a ∧ a ≤ 22) → a ≠ 44 → J a = I a))
theorem ba_both {I J : Hi} (h : BaA I J) : LI (if J 94 6 = nI 0 then zup J 94 0 (nI 0) else zup (zset (zup J 94 0 (nI 0)) 95 (cp (J 96) (J 95) 1226)) 94 7 (nI 0)) := by
  obtain ⟨hI, ⟨h0, rfl⟩ | ⟨h1, u1, u2, u3, u4, u5⟩⟩ := h
  · rw [if_pos (by rw [← hI.2.2.2.2.2.1]; exact h0)]
    exact hI.keep (BX.thr hI.1 _) (XM.up hI.2.1.1 (by decide)) (by
      obtain ⟨c, e, he, t1, t9, hb⟩ := hI.2.2.2.2.1
      exact ⟨c, e, he, by rw [zup_ne _ _ (by decide)]; exact t1, by rw [zup_at, upd_ne _ _ (by decide)]; exact t9, fun i hi => by rw [zup_ne _ _ (by decide), zup_ne _ _ (by decide)]; exact hb i hi⟩) (fun a _ _ a3 _ _ => by rw [zup_ne _ _ a3]) (fun j a1 _ => by rw [zup_at, upd_ne _ _ a1])
  · have hB : BX J := bx_hi hI.1 (fun a => (3 ≤ a ∧ a ≤ 6) ∨ (16 ≤ a ∧ a ≤ 22) ∨ a = 44) (Or.inr (by rw [u5 1 (by decide) (by decide) (by decide)])) (by rw [u5 0 (by decide) (by decide) (by decide)]; exact hI.1 0 11) (fun a h => by omega) (fun a _ _ a3 => u5 a (fun z => a3 (Or.inl z)) (fun z => a3 (Or.inr (Or.inl z))) (fun z => a3 (Or.inr (Or.inr z))))
    obtain ⟨-, ⟨hX, ⟨m, s, hm, hs, g2, g1, gk⟩, hMR⟩, h38, h37, ⟨c, e, he, t1, t9, hb⟩, f1, f2, cq1, cq2⟩ := hI
    have j94 : J 94 = I 94 := u5 94 (by decide) (by decide) (by decide)
    have j96 : J 96 = I 96 := u5 96 (by decide) (by decide) (by decide)
    have n0 : ¬ J 94 6 = nI 0 := by
      rw [j94, ← f1, h1]
      decide
    rw [if_neg n0]
    have q0 : ∀ a, a ≠ 94 → a ≠ 95 → (zup (zset (zup J 94 0 (nI 0)) 95 (cp (J 96) (J 95) 1226)) 94 7 (nI 0)) a = J a := fun a a1 a2 => by rw [zup_ne _ _ a1, zset_ne _ _ a2, zup_ne _ _ a1]
    have q : ∀ a, a = 0 ∨ a = 1 ∨ a = 2 ∨ (7 ≤ a ∧ a ≤ 15) ∨ (37 ≤ a ∧ a ≤ 43) ∨ a = 96 ∨ a = 100 → (zup (zset (zup J 94 0 (nI 0)) 95 (cp (J 96) (J 95) 1226)) 94 7 (nI 0)) a = I a := fun a ha => (q0 a (by omega) (by omega)).trans (u5 a (by omega) (by omega) (by omega))
    have q9 : ∀ j, j ≠ 0 → j ≠ 7 → (zup (zset (zup J 94 0 (nI 0)) 95 (cp (J 96) (J 95) 1226)) 94 7 (nI 0)) 94 j = I 94 j := fun j a1 a2 => by rw [zup_at, upd_ne _ _ a2, zset_ne _ _ (by decide), zup_at, upd_ne _ _ a1, j94]
    have q95 : ∀ j, j < 1226 → (zup (zset (zup J 94 0 (nI 0)) 95 (cp (J 96) (J 95) 1226)) 94 7 (nI 0)) 95 j = I 96 j := fun j hj => by rw [zup_ne _ _ (by decide), zset_at]; simp only [cp]; rw [if_pos hj, j96]
    refine ⟨BX.up (BX.set (BX.thr hB _) (fun j => BX.copy hB (by decide) (by decide) (by decide) (by decide) j)) (iv_nI (n := 12) (by decide) (by decide)), ⟨⟨hX.2.of (fun j _ h2 => q95 j h2), by rw [q 96 (by decide)]; exact hX.2⟩, ⟨m, 0, hm, by decide, by rw [q0 44 (by decide) (by decide), u4]; exact g2, by rw [q0 44 (by decide) (by decide)]; exact u3, fun k hk => absurd hk (by omega)⟩, ⟨0, by decide, by rw [zup_at, upd_at], fun k hk => absurd hk (by omega)⟩⟩, by rw [q 38 (by decide)]; exact h38, by rw [q 37 (by decide)]; exact h37, ⟨c, e, he, by rw [q 1 (by decide)]; exact t1, by rw [q9 9 (by decide) (by decide)]; exact t9, fun i hi => ⟨(hb i hi).1, by rw [q 2 (by decide)]; exact (hb i hi).2.1, by rw [q 100 (by decide)]; exact (hb i hi).2.2⟩⟩, by rw [q 0 (by decide), q9 6 (by decide) (by decide)]; exact f1, by rw [q 0 (by decide), q9 14 (by decide) (by decide)]; exact f2, cq2.of (fun j hj => by rw [q0 3 (by decide) (by decide)]; exact u1 j (by omega)) (fun j hj => ?_) (fun j hj => q95 j (by have := hj.lt; omega)), cq2.of (fun j _ => by rw [q 11 (by decide)]) (fun j _ => ?_) (fun j _ => by rw [q 96 (by decide)])⟩
    · have z := q0 5 (by decide) (by decide)
      exact (congrFun z _).trans (u2 (9 * j + 8) (by omega))
    · have z := q 13 (by decide)
      exact congrFun z _
section Bth
variable (G : Gx) (d : Nat)
theorem xd_undo {I : Hi} (hI : LI I) : Ct G GAM mX9_undo (d + 2) 0 [.ref 0] I (Rv (fun v J => ∃ x, v = some (.int x) ∧ UnA I J)) := by
  refine (xk_undo G d I hI.2.1.2.1).weak (fun o J h => ?_)
  cases o with
  | inr E => exact h.elim
  | inl v =>
    obtain ⟨⟨x, rfl, -⟩, h2⟩ := h
    exact ⟨x, rfl, hI, h2⟩
theorem mo_undo {I J : Hi} (h : UnA I J) : Ct G GAM mX10_undo d 0 [.ref 94] J (Rv (fun v K => ∃ x, v = some (.int x) ∧ LI K)) := by
  have hB := h.bx
  have hX : XM J := by
    have := h.1.2.1.1
    exact ⟨by rw [h.2.2.2.2 95 (by decide) (by decide)]; exact this.1, by rw [h.2.2.2.2 96 (by decide) (by decide)]; exact this.2⟩
  have hMR : MR J := h.1.2.1.2.2.of (by rw [h.2.2.2.2 94 (by decide) (by decide)]) (h.2.2.2.2 99 (by decide) (by decide)) (fun j _ => by rw [h.2.2.2.2 95 (by decide) (by decide)])
  obtain ⟨r, hr, h7, hk⟩ := id hMR
  refine (ct_undo G d J r hr h7).weak (fun o K q => ?_)
  obtain ⟨rfl, rfl⟩ := q
  refine ⟨_, rfl, ?_⟩
  obtain ⟨b1, b2⟩ := undo_ok hB hX r hr
  unfold undoI at b1 b2 ⊢
  by_cases e : r = 0
  · rw [if_pos e] at b1 b2 ⊢
    exact un_both h b1 b2 (by rw [zup_at, upd_ne _ _ (by decide)]) (by rw [zup_at, upd_ne _ _ (by decide)]) (by rw [zup_at, upd_ne _ _ (by decide)]) (hMR.of (by rw [zup_at, upd_ne _ _ (by decide)]) (by rw [zup_ne _ _ (by decide)]) (fun j _ => by rw [zup_ne _ _ (by decide)])) (fun j _ => by rw [zup_ne _ _ (by decide)]) (fun a a1 a2 => by rw [zup_ne _ _ a1])
  · rw [if_neg e] at b1 b2 ⊢
    have h95 : ∀ j, D95 j → (zset (zup (zup J 94 0 (nI 0)) 94 7 (nI (r - 1))) 95 (cp (fun q => J 99 (377 * (r - 1) + q)) (J 95) 377)) 95 j = J 95 j := fun j hj => by
      rw [zset_at]
      simp only [cp]
      rw [if_pos (by have := hj; unfold D95 at this; omega)]
      exact hk (r - 1) (by omega) j hj
    exact un_both h b1 b2 (by rw [zset_ne _ _ (by decide), zup_at, upd_ne _ _ (by decide), zup_at, upd_ne _ _ (by decide)]) (by rw [zset_ne _ _ (by decide), zup_at, upd_ne _ _ (by decide), zup_at, upd_ne _ _ (by decide)]) (by rw [zset_ne _ _ (by decide), zup_at, upd_ne _ _ (by decide), zup_at, upd_ne _ _ (by decide)]) ⟨r - 1, by omega, by rw [zset_ne _ _ (by decide), zup_at, upd_at], fun k q j hj => by rw [h95 j hj, zset_ne _ _ (by decide), zup_ne _ _ (by decide), zup_ne _ _ (by decide)]; exact hk k (by omega) j hj⟩ h95 (fun a a1 a2 => by rw [zset_ne _ _ a2, zup_ne _ _ a1, zup_ne _ _ a1])
theorem xd_image {I : Hi} (hI : LI I) : Ct G GAM mX9_image (d + 1) 0 [.ref 0] I (Rv (fun v J => v = none ∧ ImA I J)) := by
  refine (xk_image G d I).weak (fun o J h => ?_)
  cases o with
  | inr E => exact h.elim
  | inl v => exact ⟨h.1, hI, h.2⟩
theorem mo_image {I J : Hi} (h : ImA I J) : Ct G GAM mX10_image d 0 [.ref 94] J (Rv (fun v K => v = none ∧ LI K)) := by
  refine (ct_image G d J).weak (fun o K q => ?_)
  obtain ⟨rfl, rfl⟩ := q
  exact ⟨rfl, im_both h⟩
theorem xd_back {I : Hi} (hI : LI I) : Ct G GAM mX9_back (d + 1) 0 [.ref 0] I (Rv (fun v J => ∃ x, v = some (.int x) ∧ BaA I J)) := by
  refine (xk_back G d I (bool_of (show inIv (0, 1) (I 0 11) from hI.1 0 11))).weak (fun o J h => ?_)
  cases o with
  | inr E => exact h.elim
  | inl v => exact ⟨_, h.1, hI, h.2⟩
theorem mo_back {I J : Hi} (h : BaA I J) : Ct G GAM mX10_back d 0 [.ref 94] J (Rv (fun v K => ∃ x, v = some (.int x) ∧ LI K)) := by
  have hI := h.1
  have h6 : J 94 6 = nI 0 ∨ J 94 6 = nI 1 := by
    have e : J 94 = I 94 := by
      obtain ⟨-, ⟨-, rfl⟩ | ⟨-, -, -, -, -, u5⟩⟩ := h
      · rfl
      · exact u5 94 (by decide) (by decide) (by decide)
    rw [e]
    exact bool_of (show inIv (0, 1) (I 94 6) from hI.1 94 6)
  refine (ct_back G d J h6).weak (fun o K q => ?_)
  obtain ⟨rfl, rfl⟩ := q
  exact ⟨_, rfl, ba_both h⟩
/-- coast of the reference behind the class's -/
theorem mo_coast {I J : Hi} {v : Int32} (h : CoA I v J) : Ct G GAM mX10_coast (d + 10) 0 [.ref 94] J (Rv (fun u K => ∃ y, u = some (.int y) ∧ LI K ∧ K 94 0 = v ∧ (v = nI 0 → y = K 107 0))) := by
  obtain ⟨hI, c, e, w, t, b, J0, o, hT, hw, ht, q0, q1, qb, C, hW⟩ := h
  have fr : ∀ a, 45 ≤ a → a ≠ 107 → J a = I a := fun a a1 a2 => (hW.1 a a2).trans (C.2.1 a (by omega) (by omega) (by omega) (by omega))
  have hB : BX J := (C.bx hI.1).no107 hW.1
  have hX : XM J := ⟨by rw [fr 95 (by decide) (by decide)]; exact hI.2.1.1.1, by rw [fr 96 (by decide) (by decide)]; exact hI.2.1.1.2⟩
  have e95 := fr 95 (by decide) (by decide)
  refine (lw_coast5 G d J (c := c) (e := e) (w, t, b) hB hX ⟨hT.1, by rw [fr 94 (by decide) (by decide)]; exact hT.2.2.1, fun i hi => ⟨(hT.2.2.2 i hi).1, by rw [fr 100 (by decide) (by decide)]; exact (hT.2.2.2 i hi).2.2⟩⟩ ⟨fun j hj => BX.w hB hj, by rw [e95]; exact q0, by rw [e95]; exact q1, rfl, rfl, fun _ _ => rfl, fun k hk => by rw [e95]; exact qb k hk, hw, ht⟩).weak (fun o2 K L => ?_)
  obtain ⟨a1, a2, a3⟩ := co_both hI C hW L
  obtain ⟨⟨y, rfl⟩, -⟩ := L
  exact ⟨y, rfl, a1, a2, fun z => Value.int.inj (Option.some.inj (Sum.inl.inj (a3 z)))⟩
theorem mo_law {I J : Hi} {v : Int32} (h : LaA I v J) : Ct G GAM mX10_law (d + 33) 0 [.ref 94] J (Rv (fun u K => ∃ y, u = some (.int y) ∧ LI K)) := by
  obtain ⟨hI, c, e, J0, o, hT, C, hW⟩ := h
  have fr : ∀ a, 45 ≤ a → a ≠ 107 → J a = I a := fun a a1 a2 => (hW.1 a a2).trans (C.2.1 a (by omega) (by omega) (by omega) (by omega))
  have hB : BX J := (C.bx hI.1).no107 hW.1
  have hX : XM J := ⟨by rw [fr 95 (by decide) (by decide)]; exact hI.2.1.1.1, by rw [fr 96 (by decide) (by decide)]; exact hI.2.1.1.2⟩
  refine (lw_law G d J (c := c) (e := e) hB hX ⟨hT.1, by rw [fr 94 (by decide) (by decide)]; exact hT.2.2.1, fun i hi => ⟨(hT.2.2.2 i hi).1, by rw [fr 100 (by decide) (by decide)]; exact (hT.2.2.2 i hi).2.2⟩⟩).weak (fun o2 K L => ?_)
  have a1 := la_both hI C hW L
  obtain ⟨⟨⟨y, rfl⟩, -⟩, -⟩ := L
  exact ⟨y, rfl, a1⟩
end Bth
