/-! ===== contracts of the reference by hand, in the checker's words ===== -/
theorem argM_r {vs : List Value} {q : Nat} {u : List (Iv ⊕ Option Nat)} (h : argM vs (.inr (some q) :: u)) : ∃ t, vs = .ref q :: t ∧ argM t u := by
  cases vs with
  | nil => exact h.elim
  | cons v t =>
    cases v with
    | ref a => obtain ⟨rfl, h⟩ := h; exact ⟨t, rfl, h⟩
    | _ => exact h.elim
theorem argM_i {vs : List Value} {iv : Iv} {u : List (Iv ⊕ Option Nat)} (h : argM vs (.inl iv :: u)) : ∃ x t, vs = .int x :: t ∧ inIv iv x ∧ argM t u := by
  cases vs with
  | nil => exact h.elim
  | cons v t =>
    cases v with
    | int x => exact ⟨x, t, rfl, h.1, h.2⟩
    | _ => exact h.elim
theorem argM_n {vs : List Value} (h : argM vs []) : vs = [] := by
  cases vs with
  | nil => rfl
  | cons v t => cases v <;> exact h.elim
theorem nI_iv {n : Nat} {x : Int32} (h : inIv (0, (n : Int)) x) : ∃ k, k ≤ n ∧ x = nI k := by
  unfold inIv at h
  simp only at h
  refine ⟨x.toInt.toNat, by omega, ?_⟩
  show x = Int32.ofNat _
  rw [← Int32.ofInt_eq_ofNat, Int.toNat_of_nonneg h.1, Int32.ofInt_toInt]
theorem iv_nI {n k : Nat} (h : k ≤ n) (hn : n < 2147483648) : inIv (0, (n : Int)) (nI k) := by
  unfold inIv
  rw [nI_toInt (by omega)]
  simp only
  omega
/-- the law's lines are well formed, whether or not there is a law -/
def LawX (W : Nat → Int32) : Prop := ∃ op bg en : Nat → Nat, ∃ L : Nat, LawOK W op bg en L ∧ ∀ n, n < L → inIv (0, 60) (W (378 + 4 * n + 1))
def XM (I : Hi) : Prop := LawX (I 95) ∧ LawX (I 96)
theorem LawX.of {W V : Nat → Int32} (h : ∀ j, 377 ≤ j → j < 1226 → V j = W j) (hx : LawX W) : LawX V := by
  obtain ⟨op, bg, en, L, hL, hN⟩ := hx
  have hl := hL.1
  refine ⟨op, bg, en, L, ⟨hL.1, by rw [h 377 (by omega) (by omega)]; exact hL.2.1, fun n hn => ?_⟩, fun n hn => ?_⟩
  · obtain ⟨a1, a2, a3, a4, a5, a6⟩ := hL.2.2 n hn
    exact ⟨by rw [h _ (by omega) (by omega)]; exact a1, by rw [h _ (by omega) (by omega)]; exact a2, a3, a4, a5, fun i hi => by rw [h _ (by omega) (by omega)]; exact a6 i hi⟩
  · rw [h _ (by omega) (by omega)]
    exact hN n hn
theorem hxD_in {c j : Nat} (h1 : 95 ≤ c) (h2 : c ≤ 97) (h3 : 377 ≤ j) (h4 : j < 1226) : hxD c j = true := by
  exact hxD_iff.mpr (Or.inl ⟨⟨h1, h2⟩, h3, h4⟩)
theorem okXM : okX XM := fun I J h hx => ⟨hx.1.of (fun j h1 h2 => h 95 j (hxD_in (by omega) (by omega) h1 h2)), hx.2.of (fun j h1 h2 => h 96 j (hxD_in (by omega) (by omega) h1 h2))⟩
theorem LawX.r {W : Nat → Int32} (hx : LawX W) (h3 : inIv (0, 1) (W 3)) : ∃ op bg en : Nat → Nat, ∃ L : Nat, LawR W op bg en L ∧ L ≤ 12 ∧ ∀ n, n < L → inIv (0, 60) (W (378 + 4 * n + 1)) := by
  obtain ⟨op, bg, en, L, hL, hN⟩ := hx
  refine ⟨op, bg, en, L, ?_, hL.1, hN⟩
  rcases bool_of h3 with e | e
  · exact Or.inl e
  · exact Or.inr ⟨e, hL⟩
abbrev BX (I : Hi) : Prop := ∀ c j, inIv (hxB c j) (I c j)
theorem BX.w {I : Hi} (h : BX I) {p : Nat} (hp : p < 377) : inIv (wbx p) (I 95 p) := by
  have := h 95 p
  unfold hxB at this
  rw [if_neg (by omega), if_neg (by omega), if_pos (by omega), if_pos hp] at this
  exact this
theorem sum_iv {a b : Int} {x y : Int32} (hx : inIv (0, a) x) (hy : inIv (0, b) y) (ha : a ≤ 1000000) (hb : b ≤ 1000000) : inIv (0, a + b) (x + y) := by
  have h := ivAdd_ok hx hy
  unfold inIv at hx hy
  unfold ivAdd at h
  simp only at h hx hy
  rw [if_pos (by simp [okB]; omega)] at h
  exact h
theorem sumN_iv {W : Nat → Int32} {op bg en : Nat → Nat} {kind : Int32} {w t s : Nat} : ∀ n, n ≤ 12 → (∀ m, m < n → inIv (0, 60) (W (378 + 4 * m + 1))) → inIv (0, (60 * n : Nat)) (sumN W op bg en kind w t s n) := by
  intro n
  induction n with
  | zero => intro _ _; exact iv_nI (Nat.le_refl 0) (by decide)
  | succ n ih =>
    intro hn h
    have h1 := ih (by omega) (fun m hm => h m (by omega))
    unfold sumN
    split
    · have h2 := sum_iv h1 (h n (by omega)) (by omega) (by omega)
      unfold inIv at h2 ⊢
      simp only at h2 ⊢
      omega
    · unfold inIv at h1 ⊢
      simp only at h1 ⊢
      omega
theorem sumV_iv {W : Nat → Int32} {op bg en : Nat → Nat} {L : Nat} {kind : Int32} {w t s : Nat} (hL : L ≤ 12) (h : ∀ m, m < L → inIv (0, 60) (W (378 + 4 * m + 1))) : inIv (0, 720) (sumV W op bg en L kind w t s) := by
  unfold sumV
  split
  · have h1 := sumN_iv (op := op) (bg := bg) (en := en) (kind := kind) (w := w) (t := t) (s := s) L hL h
    unfold inIv at h1 ⊢
    simp only at h1 ⊢
    omega
  · exact iv_nI (n := 720) (by decide) (by decide)
/-- a cell on which nothing hangs gets new numbers -/
theorem BX.triv {I : Hi} (h : BX I) {a : Nat} (ha : hxT a = true) (g : Nat → Int32) : BX (zset I a g) := by
  intro c j
  by_cases e : c = a
  · subst e
    rw [(hxT_ok ha j).1]
    exact inIv_F _
  · show inIv _ ((if c = a then g else I c) j)
    rw [if_neg e]
    exact h c j
theorem XM.ne {I : Hi} (h : XM I) {a : Nat} (h1 : a ≠ 95) (h2 : a ≠ 96) (g : Nat → Int32) : XM (zset I a g) := by
  unfold XM at *
  rw [zset_ne _ _ (fun e => h1 e.symm), zset_ne _ _ (fun e => h2 e.symm)]
  exact h
theorem Fs_cell {I : Hi} {S : List (Nat × Nat × Nat)} {a lo hi : Nat} (g : Nat → Int32) (hm : (a, lo, hi) ∈ S) (hg : ∀ j, j < 5000 → ¬ (lo ≤ j ∧ j ≤ hi) → g j = I a j) : Fs S I (zset I a g) := by
  intro c j hj hc
  by_cases e : c = a
  · subst e
    show (if c = c then g else I c) j = _
    rw [if_pos rfl]
    refine hg j hj (fun h => ?_)
    have := List.any_eq_false.mp hc _ hm
    simp only [Bool.and_eq_true, decide_eq_true_eq, Nat.ble_eq] at this
    exact this ⟨trivial, h.1, h.2⟩
  · show (if c = a then g else I c) j = _
    rw [if_neg e]
/-- a cell on which X does not hang -/
theorem okX.ne {X : Hi → Prop} (oX : okX X) {I : Hi} (hX : X I) {a : Nat} (ha : ∀ j, hxD a j = false) (g : Nat → Int32) : X (zset I a g) := oX I _ (fun c j hd => by rw [zset_ne _ _ (fun e => by subst e; rw [ha j] at hd; exact nomatch hd)]) hX
theorem hxD_no {a : Nat} (h : 98 = a ∨ 102 = a ∨ 103 = a ∨ 104 = a) (j : Nat) : hxD a j = false := by
  cases e : hxD a j with
  | false => rfl
  | true => have e := hxD_iff.mp e; omega
section Man
variable {G : Gx} {X : Hi → Prop}
theorem man_sumOf (oX : okX X) (xm : ∀ I, X I → XM I) : CtOK G (hxM []) X mtL ct_m0 := by
  intro k I vs hB hX hA hF
  obtain ⟨t0, rfl, hA1⟩ := argM_r hA
  obtain ⟨kind, t1, rfl, -, hA2⟩ := argM_i hA1
  obtain ⟨w, t2, rfl, hw, hA3⟩ := argM_i hA2
  obtain ⟨t, t3, rfl, ht, hA4⟩ := argM_i hA3
  obtain ⟨s, t4, rfl, hs, hA5⟩ := argM_i hA4
  cases argM_n hA5
  obtain ⟨w, hw, rfl⟩ := nI_iv (n := 7) hw
  obtain ⟨t, ht, rfl⟩ := nI_iv (n := 7) ht
  obtain ⟨s, hs, rfl⟩ := nI_iv (n := 3) hs
  have h3 := BX.w hB (p := 3) (by decide)
  obtain ⟨op, bg, en, L, hR, hL, hN⟩ := (xm _ hX).1.r h3
  have hc := ct_sumOf G k I op bg en L kind w t s (by omega) (by omega) (by omega) hR
  rw [Nat.add_comm] at hc
  refine hc.weak (fun o J h => ?_)
  obtain ⟨rfl, g, rfl⟩ := h
  exact ⟨BX.triv hB (by decide) g, oX.ne hX (hxD_no (by decide)) g, Fs_cell g (List.mem_singleton.mpr rfl) (fun j h1 h2 => absurd ⟨Nat.zero_le _, by omega⟩ h2), _, List.mem_singleton.mpr rfl, sumV_iv hL hN, fun e he => nomatch he⟩
theorem man_keepsAll (oX : okX X) : CtOK G (hxM []) X mtL ct_m3 := by
  intro k I vs hB hX hA hF
  obtain ⟨t0, rfl, hA1⟩ := argM_r hA
  cases argM_n hA1
  have hc := ct_keepsAll G (0 + k) I
  refine hc.weak (fun o J h => ?_)
  obtain ⟨rfl, rfl⟩ := h
  refine ⟨fun c j => ?_, oX.ne hX (hxD_no (by decide)) _, Fs_cell _ (List.mem_singleton.mpr rfl) (fun j h1 h2 => ?_), _, List.mem_singleton.mpr rfl, trivial, fun e he => nomatch he⟩
  · by_cases e : c = 98
    · subst e
      rw [zset_at]
      have h98 := hB 98 j
      simp only [cp]
      split
      · rename_i hj
        have := BX.w hB hj
        show inIv (hxB 98 j) _
        unfold hxB
        rw [if_neg (by omega), if_neg (by omega), if_pos (by omega), if_pos hj]
        exact this
      · exact h98
    · rw [zset_ne _ _ e]
      exact hB c j
  · simp only [cp]
    rw [if_neg (by omega)]
theorem wbx_mod {j r : Nat} (h1 : 377 * r ≤ j) (h2 : j < 377 * r + 377) : j % 377 = j - 377 * r := by
  have : j = (j - 377 * r) + 377 * r := by omega
  rw [this, Nat.add_mul_mod_self_left, Nat.mod_eq_of_lt (by omega)]
  omega
theorem puA_iv {A W : Nat → Int32} {r : Nat} (hA : ∀ j, inIv (wbx (j % 377)) (A j)) (hW : ∀ j, j < 377 → inIv (wbx j) (W j)) : ∀ j, inIv (wbx (j % 377)) (puA A W r 377 j) := by
  intro j
  simp only [puA]
  split
  · rename_i h
    rw [wbx_mod h.1 h.2]
    exact hW _ (by omega)
  · exact hA j
theorem man_remembers (hx : ∀ (I : Hi) (r : Nat), r ≤ 12 → I 94 7 = nI r → X I → X (zset (zup I 94 7 (nI (remR r))) 99 (remA (I 99) (I 95) r))) : CtOK G (hxM []) X mtL ct_m2 := by
  intro k I vs hB hX hA hF
  obtain ⟨t0, rfl, hA1⟩ := argM_r hA
  cases argM_n hA1
  obtain ⟨r, hr, h7⟩ := nI_iv (n := 12) (show inIv (0, 12) (I 94 7) from hB 94 7)
  have hc := ct_remembers G (0 + k) I r hr h7
  refine hc.weak (fun o J h => ?_)
  obtain ⟨rfl, rfl⟩ := h
  have hA99 : ∀ j, inIv (wbx (j % 377)) (I 99 j) := fun j => hB 99 j
  have hW95 : ∀ j, j < 377 → inIv (wbx j) (I 95 j) := fun j hj => BX.w hB hj
  refine ⟨fun c j => ?_, ?_, fun c j hj hc => ?_, _, List.mem_singleton.mpr rfl, trivial, fun e he => nomatch he⟩
  · by_cases e : c = 99
    · subst e
      rw [zset_at]
      show inIv (wbx (j % 377)) _
      unfold remA
      split
      · refine puA_iv (fun j => ?_) hW95 j
        simp only [shA]
        split
        · have := hA99 (j + 377)
          rw [Nat.add_mod_right] at this
          exact this
        · exact hA99 j
      · exact puA_iv hA99 hW95 j
    · rw [zset_ne _ _ e]
      by_cases e2 : c = 94
      · subst e2
        show inIv _ ((if (94 : Nat) = 94 then upd (I 94) 7 _ else I 94) j)
        rw [if_pos rfl]
        by_cases e3 : j = 7
        · subst e3
          simp only [upd]
          rw [if_pos trivial]
          refine iv_nI (n := 12) ?_ (by decide)
          unfold remR
          split <;> omega
        · simp only [upd]
          rw [if_neg e3]
          exact hB 94 j
      · rw [zup_ne _ _ e2]
        exact hB c j
  · exact hx I r hr h7 hX
  · have hc : ((decide (94 = c) && (Nat.ble 7 j && Nat.ble j 7)) || ((decide (99 = c) && (Nat.ble 0 j && Nat.ble j 4523)) || false)) = false := hc
    simp only [Bool.or_eq_false_iff, Bool.and_eq_false_iff, decide_eq_false_iff_not] at hc
    by_cases e : c = 99
    · subst e
      have h9 : 4523 < j := by
        rcases hc.2.1 with h | h | h
        · exact absurd rfl h
        · exact absurd (Nat.ble_eq.mpr (Nat.zero_le j)) (by rw [h]; decide)
        · false_or_by_contra
          rw [Nat.ble_eq.mpr (by omega)] at h
          exact nomatch h
      rw [zset_at]
      unfold remA
      split
      · simp only [puA, shA]
        rw [if_neg (by omega), if_neg (by omega)]
      · simp only [puA]
        rw [if_neg (by omega)]
    · rw [zset_ne _ _ e]
      by_cases e2 : c = 94
      · subst e2
        show (if (94 : Nat) = 94 then upd (I 94) 7 _ else I 94) j = _
        rw [if_pos rfl]
        by_cases e3 : j = 7
        · subst e3
          rcases hc.1 with h | h | h
          · exact absurd rfl h
          · exact absurd h (by decide)
          · exact absurd h (by decide)
        · simp only [upd]
          rw [if_neg e3]
      · rw [zup_ne _ _ e2]
end Man
