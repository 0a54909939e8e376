/-! words: the class's number of a word says which it is -/
def hwD (x : Nat → Nat) : Nat → Nat
  | 0 => 0
  | k + 1 => 32 * hwD x k + x k
theorem hw_D (c : Nat → Nat) (q : Nat) : ∀ k, hw c q k = hwD (fun j => c (q + j) % 32) k := by
  intro k
  induction k with
  | zero => rfl
  | succ k ih =>
    show 32 * hw c q k + c (q + k) % 32 = 32 * hwD (fun j => c (q + j) % 32) k + c (q + k) % 32
    rw [ih]
theorem hwD_inj {x y : Nat → Nat} : ∀ {k l : Nat}, (∀ j, j < k → 1 ≤ x j ∧ x j < 32) → (∀ j, j < l → 1 ≤ y j ∧ y j < 32) → hwD x k = hwD y l → k = l ∧ ∀ j, j < k → x j = y j := by
  intro k
  induction k with
  | zero =>
    intro l hx hy h
    cases l with
    | zero => exact ⟨rfl, fun j hj => absurd hj (by omega)⟩
    | succ l =>
      have h : 0 = 32 * hwD y l + y l := h
      have := hy l (by omega)
      omega
  | succ k ih =>
    intro l hx hy h
    cases l with
    | zero =>
      have h : 32 * hwD x k + x k = 0 := h
      have := hx k (by omega)
      omega
    | succ l =>
      have h : 32 * hwD x k + x k = 32 * hwD y l + y l := h
      have h1 := hx k (by omega)
      have h2 := hy l (by omega)
      obtain ⟨e1, e2⟩ := ih (l := l) (fun j hj => hx j (by omega)) (fun j hj => hy j (by omega)) (by omega)
      subst e1
      refine ⟨rfl, fun j hj => ?_⟩
      by_cases z : j = k
      · subst z; omega
      · exact e2 j (by omega)
def chN (i j : Nat) : Nat := (chV i j).toInt.toNat
theorem chN_b : ∀ i : Fin 23, ∀ j : Fin 8, (j : Nat) < zsLen.getD i 0 → chV i j = nI (chN i j) ∧ 97 ≤ chN i j ∧ chN i j ≤ 122 := by decide +kernel
theorem zsLen_5 : ∀ i : Fin 23, zsLen.getD i 0 ≤ 5 := by decide +kernel
def hz (i : Nat) : Int32 := nI (hwD (fun j => chN i j % 32) (zsLen.getD i 0))
theorem hz_b : ∀ i : Fin 23, 1 ≤ hwD (fun j => chN i j % 32) (zsLen.getD i 0) ∧ hwD (fun j => chN i j % 32) (zsLen.getD i 0) < 33554432 := by decide +kernel
theorem nI_inj {a b : Nat} (ha : a < 1000000000) (hb : b < 1000000000) (h : nI a = nI b) : a = b := by
  have h2 := congrArg Int32.toInt h
  rw [nI_toInt (by omega), nI_toInt (by omega)] at h2
  omega
theorem neg1_ne {a : Nat} (ha : a < 1000000000) : (-1 : Int32) ≠ nI a := by
  intro h
  have h2 := congrArg Int32.toInt h
  rw [nI_toInt (by omega)] at h2
  have : (-1 : Int32).toInt = -1 := by decide
  omega
theorem wd_iff {c : Nat → Nat} {e b i : Nat} (hi : i < 23) : wv c e b = hz i ↔ (lx c e b = b + zsLen.getD i 0 ∧ ∀ k, k < zsLen.getD i 0 → c (b + k) = chN i k) := by
  have h5 : zsLen.getD i 0 ≤ 5 := zsLen_5 ⟨i, hi⟩
  have hb2 : 1 ≤ hwD (fun j => chN i j % 32) (zsLen.getD i 0) ∧ hwD (fun j => chN i j % 32) (zsLen.getD i 0) < 33554432 := hz_b ⟨i, hi⟩
  have hch : ∀ k, k < zsLen.getD i 0 → 97 ≤ chN i k ∧ chN i k ≤ 122 := fun k hk => (chN_b ⟨i, hi⟩ ⟨k, by omega⟩ hk).2
  have hle : b ≤ lx c e b := rn_ge
  have hlt : ∀ k, b + k < lx c e b → 97 ≤ c (b + k) ∧ c (b + k) ≤ 122 := fun k hk => rn_all (p := b) (by omega) hk
  constructor
  · intro h
    unfold wv wvK at h
    by_cases z : lx c e b - b ≤ 5
    · rw [if_pos z] at h
      have h6 := nI_inj (by have := hw_b c b z; omega) (by have := hb2.2; show hwD (fun j => chN i j % 32) (zsLen.getD i 0) < _; omega) h
      rw [hw_D] at h6
      obtain ⟨e1, e2⟩ := hwD_inj (fun j hj => by have := hlt j (by omega); omega) (fun j hj => by have := hch j hj; omega) h6
      refine ⟨by omega, fun k hk => ?_⟩
      have h7 := e2 k (by omega)
      have h8 := hlt k (by omega)
      have h9 := hch k hk
      have h7 : c (b + k) % 32 = chN i k % 32 := h7
      omega
    · rw [if_neg z] at h
      exact absurd h (neg1_ne (by have := hb2.2; show hwD (fun j => chN i j % 32) (zsLen.getD i 0) < _; omega))
  · rintro ⟨h1, h2⟩
    unfold wv wvK
    have h3 : lx c e b - b = zsLen.getD i 0 := by omega
    rw [h3, if_pos h5, hw_D]
    unfold hz
    congr 1
    have : ∀ n, n ≤ zsLen.getD i 0 → hwD (fun j => c (b + j) % 32) n = hwD (fun j => chN i j % 32) n := by
      intro n
      induction n with
      | zero => intro _; rfl
      | succ n ih =>
        intro hn
        show 32 * hwD (fun j => c (b + j) % 32) n + c (b + n) % 32 = 32 * hwD (fun j => chN i j % 32) n + chN i n % 32
        rw [ih (by omega), h2 n (by omega)]
    exact this _ (Nat.le_refl _)
