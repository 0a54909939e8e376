/-! image, back and undo of the reference, as the law's loop wants them -/
theorem hxB_w {c : Nat} (h1 : 95 ≤ c) (h2 : c ≤ 98) (j : Nat) : hxB c j = if j < 377 then wbx j else ivF := by
  unfold hxB
  rw [if_neg (by omega), if_neg (by omega), if_pos (by omega)]
theorem BX.set {I : Hi} (h : BX I) {a : Nat} {g : Nat → Int32} (hg : ∀ j, inIv (hxB a j) (g j)) : BX (zset I a g) := by
  intro c j
  by_cases e : c = a
  · subst e
    rw [zset_at]
    exact hg j
  · rw [zset_ne _ _ e]
    exact h c j
theorem BX.up {I : Hi} (h : BX I) {a j : Nat} {v : Int32} (hv : inIv (hxB a j) v) : BX (zup I a j v) := by
  refine BX.set h (fun k => ?_)
  simp only [upd]
  split
  · rename_i e
    rw [e]
    exact hv
  · exact h a k
theorem zup_at (I : Hi) (a j : Nat) (v : Int32) : zup I a j v a = upd (I a) j v := by simp [zup, zset]
theorem XM.up {I : Hi} (h : XM I) {a j : Nat} {v : Int32} (hd : a ≠ 95 ∧ a ≠ 96) : XM (zup I a j v) := h.ne hd.1 hd.2 _
theorem BX.copy {I : Hi} (h : BX I) {a b n : Nat} (ha1 : 95 ≤ a) (ha2 : a ≤ 98) (hb1 : 95 ≤ b) (hb2 : b ≤ 98) (j : Nat) : inIv (hxB b j) (cp (I a) (I b) n j) := by
  simp only [cp]
  split
  · rw [hxB_w hb1 hb2, ← hxB_w ha1 ha2]
    exact h a j
  · exact h b j
theorem BX.thr {I : Hi} (h : BX I) (v : Int32) : BX (zup I 94 0 v) := BX.up (a := 94) (j := 0) h (inIv_F _)
section Top
variable {G : Gx} {d : Nat} {I : Hi}
theorem lw_image (hB : BX I) (hX : XM I) : Ct G GAM mX10_image d 0 [.ref 94] I (fun o J => o = .inl none ∧ BX J ∧ XM J ∧ J 94 6 = nI 1 ∧ J 94 9 = I 94 9 ∧ ∀ c, c < 94 ∨ c = 100 → J c = I c) := by
  refine (ct_image G d I).weak (fun o J h => ?_)
  obtain ⟨rfl, rfl⟩ := h
  refine ⟨rfl, BX.up (BX.set (BX.thr hB _) (fun j => BX.copy hB (by decide) (by decide) (by decide) (by decide) j)) (iv_nI (n := 1) (by decide) (by decide)), XM.up ⟨?_, ?_⟩ (by decide), ?_, ?_, fun c hc => ?_⟩
  · rw [zset_ne _ _ (by decide), zup_ne _ _ (by decide)]
    exact hX.1
  · rw [zset_at]
    exact hX.1.of (fun j h1 h2 => by simp only [cp]; rw [if_pos h2])
  · rw [zup_at, upd_at]
  · rw [zup_at, upd_ne _ _ (by decide), zset_ne _ _ (by decide), zup_at, upd_ne _ _ (by decide)]
  · rw [zup_ne _ _ (by omega), zset_ne _ _ (by omega), zup_ne _ _ (by omega)]
theorem lw_back (hB : BX I) (hX : XM I) : Ct G GAM mX10_back d 0 [.ref 94] I (fun o J => o = .inl (some (.int (I 94 6))) ∧ BX J ∧ XM J ∧ J 94 6 = I 94 6 ∧ J 94 9 = I 94 9 ∧ ∀ c, c < 94 ∨ c = 100 → J c = I c) := by
  have h6 : I 94 6 = nI 0 ∨ I 94 6 = nI 1 := bool_of (show inIv (0, 1) (I 94 6) from hB 94 6)
  refine (ct_back G d I h6).weak (fun o J h => ?_)
  obtain ⟨rfl, rfl⟩ := h
  by_cases e : I 94 6 = nI 0
  · rw [if_pos e]
    refine ⟨rfl, BX.thr hB _, XM.up hX (by decide), ?_, ?_, fun c hc => ?_⟩
    · rw [zup_at, upd_ne _ _ (by decide)]
    · rw [zup_at, upd_ne _ _ (by decide)]
    · rw [zup_ne _ _ (by omega)]
  · rw [if_neg e]
    refine ⟨rfl, BX.up (BX.set (BX.thr hB _) (fun j => BX.copy hB (by decide) (by decide) (by decide) (by decide) j)) (iv_nI (n := 12) (by decide) (by decide)), XM.up ⟨?_, ?_⟩ (by decide), ?_, ?_, fun c hc => ?_⟩
    · rw [zset_at]
      exact hX.2.of (fun j h1 h2 => by simp only [cp]; rw [if_pos h2])
    · rw [zset_ne _ _ (by decide), zup_ne _ _ (by decide)]
      exact hX.2
    · rw [zup_at, upd_ne _ _ (by decide), zset_ne _ _ (by decide), zup_at, upd_ne _ _ (by decide)]
    · rw [zup_at, upd_ne _ _ (by decide), zset_ne _ _ (by decide), zup_at, upd_ne _ _ (by decide)]
    · rw [zup_ne _ _ (by omega), zset_ne _ _ (by omega), zup_ne _ _ (by omega)]
theorem lw_undo (hB : BX I) (hX : XM I) : Ct G GAM mX10_undo d 0 [.ref 94] I (fun o J => (∃ x, o = .inl (some (.int x))) ∧ BX J ∧ XM J ∧ J 94 6 = I 94 6 ∧ J 94 9 = I 94 9 ∧ ∀ c, c < 94 ∨ c = 100 → J c = I c) := by
  obtain ⟨r, hr, h7⟩ := nI_iv (n := 12) (show inIv (0, 12) (I 94 7) from hB 94 7)
  refine (ct_undo G d I r hr h7).weak (fun o J h => ?_)
  obtain ⟨rfl, rfl⟩ := h
  refine ⟨⟨_, rfl⟩, ?_⟩
  unfold undoI
  by_cases e : r = 0
  · rw [if_pos e]
    refine ⟨BX.thr hB _, XM.up hX (by decide), ?_, ?_, fun c hc => ?_⟩
    · rw [zup_at, upd_ne _ _ (by decide)]
    · rw [zup_at, upd_ne _ _ (by decide)]
    · rw [zup_ne _ _ (by omega)]
  · rw [if_neg e]
    refine ⟨BX.set (BX.up (a := 94) (j := 7) (BX.thr hB _) (iv_nI (n := 12) (by omega) (by decide))) (fun j => ?_), ⟨?_, ?_⟩, ?_, ?_, fun c hc => ?_⟩
    · simp only [cp]
      split
      · rename_i hj
        have h99 : inIv (wbx ((377 * (r - 1) + j) % 377)) (I 99 (377 * (r - 1) + j)) := hB 99 (377 * (r - 1) + j)
        rw [wbx_mod (r := r - 1) (by omega) (by omega), show 377 * (r - 1) + j - 377 * (r - 1) = j by omega] at h99
        rw [hxB_w (by decide) (by decide), if_pos hj]
        exact h99
      · exact hB 95 j
    · rw [zset_at]
      exact hX.1.of (fun j h1 h2 => by simp only [cp]; rw [if_neg (by omega)])
    · rw [zset_ne _ _ (by decide), zup_ne _ _ (by decide), zup_ne _ _ (by decide)]
      exact hX.2
    · rw [zset_ne _ _ (by decide), zup_at, upd_ne _ _ (by decide), zup_at, upd_ne _ _ (by decide)]
    · rw [zset_ne _ _ (by decide), zup_at, upd_ne _ _ (by decide), zup_at, upd_ne _ _ (by decide)]
    · rw [zset_ne _ _ (by omega), zup_ne _ _ (by omega), zup_ne _ _ (by omega)]
end Top
