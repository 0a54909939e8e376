/-! the class's remember keeps what is looked after -/
theorem hxB_mem {c : Nat} (h1 : 44 ≤ c) (h2 : c < 94) (j : Nat) : hxB c j = ivF := by
  unfold hxB
  rw [if_pos h2, if_neg (by omega), if_neg (by omega), if_neg (by omega)]
theorem k0_S : ∀ c : Fin 94, 44 ≤ (c : Nat) → ((c : Nat), 0, 4999) ∈ ct_k0.2.2.2.2.2.1 := by decide +kernel
theorem MC.of {I K : Hi} (h : MC I) (h1 : K 44 1 = I 44 1) (h2 : K 44 2 = I 44 2) (hm : ∀ a, 46 ≤ a → a < 94 → K a = I a) (h3 : ∀ i, i < 3 → K 3 i = I 3 i) (h5 : ∀ i, i < 8 → K 5 (9 * i + 8) = I 5 (9 * i + 8)) : MC K := by
  obtain ⟨n, s, hn, hs, g2, g1, hk⟩ := h
  refine ⟨n, s, hn, hs, h2.trans g2, h1.trans g1, fun k q => ?_⟩
  have hh := hk k q
  have lt : (n + 12 - k) % 12 < 12 := by omega
  generalize (n + 12 - k) % 12 = y at hh lt
  exact hh.of (hm _ (by omega) (by omega)) (hm _ (by omega) (by omega)) h3 h5
theorem MR.of {I K : Hi} (h : MR I) (h7 : K 94 7 = I 94 7) (h99 : K 99 = I 99) (h95 : ∀ j, D95 j → K 95 j = I 95 j) : MR K := by
  obtain ⟨r, hr, g7, hk⟩ := h
  exact ⟨r, hr, h7.trans g7, fun k q j hj => by rw [h99, h95 j hj]; exact hk k q j hj⟩
theorem manC6 {G : Gx} (I0 : Hi) : ManC G (X6 I0) := by
  intro k I vs hB hX hA hF
  obtain ⟨t0, rfl, hA1⟩ := argM_r hA
  obtain ⟨t1, rfl, hA2⟩ := argM_r hA1
  cases argM_n hA2
  have hc := ct_remem G (1 + k) I hX.2.1
  rw [show 1 + k + 1 = 2 + k by omega] at hc
  refine hc.weak (fun o J h => ?_)
  cases o with
  | inr E => exact h.elim
  | inl v =>
    obtain ⟨rfl, hm, hf⟩ := h
    obtain ⟨x1, x2, x3, x4, x5, x6⟩ := hX
    refine ⟨fun c j => ?_, ⟨?_, hm, x3.of (by rw [hf 94 (by decide)]) (hf 99 (by decide)) (fun j _ => by rw [hf 95 (by decide)]), fun j hj => by rw [hf 95 (by decide)]; exact x4 j hj, fun j hj => by rw [hf 3 (by decide)]; exact x5 j hj, fun i hi => by rw [hf 5 (by decide)]; exact x6 i hi⟩, fun c j hj hc => ?_, _, List.mem_singleton.mpr rfl, trivial, fun e he => nomatch he⟩
    · by_cases e : c < 44 ∨ 94 ≤ c
      · rw [hf c e]; exact hB c j
      · show inIv (hxB c j) _
        rw [hxB_mem (by omega) (by omega)]; exact inIv_F _
    · exact ⟨by rw [hf 95 (by decide)]; exact x1.1, by rw [hf 96 (by decide)]; exact x1.2⟩
    · by_cases e : c < 44 ∨ 94 ≤ c
      · rw [hf c e]
      · have hq := List.any_eq_false.mp hc _ (k0_S ⟨c, by omega⟩ (by show 44 ≤ c; omega))
        simp only [Bool.and_eq_true, decide_eq_true_eq, Nat.ble_eq] at hq
        exact absurd ⟨trivial, Nat.zero_le _, by omega⟩ hq
