/-! the text's language, as both readers read it: c the bytes, e where they end -/
def rnE (c : Nat → Nat) (lo hi : Nat) : Nat → Nat → Nat
  | 0, p => p
  | f + 1, p => if lo ≤ c p ∧ c p ≤ hi then rnE c lo hi f (p + 1) else p
def rn (c : Nat → Nat) (e lo hi p : Nat) : Nat := rnE c lo hi (e - p) p
section Spc
variable {c : Nat → Nat} {e lo hi p : Nat}
theorem rn_in (h : p < e) (h2 : lo ≤ c p ∧ c p ≤ hi) : rn c e lo hi p = rn c e lo hi (p + 1) := by
  unfold rn
  rw [show e - p = (e - (p + 1)) + 1 by omega]
  show (if lo ≤ c p ∧ c p ≤ hi then _ else _) = _
  rw [if_pos h2]
theorem rn_out (h : p < e → ¬ (lo ≤ c p ∧ c p ≤ hi)) : rn c e lo hi p = p := by
  unfold rn
  by_cases q : p < e
  · rw [show e - p = (e - (p + 1)) + 1 by omega]
    show (if lo ≤ c p ∧ c p ≤ hi then _ else _) = _
    rw [if_neg (h q)]
  · rw [show e - p = 0 by omega]; rfl
theorem rn_ind (c : Nat → Nat) (e lo hi : Nat) : ∀ m p, e ≤ p + m → p ≤ rn c e lo hi p ∧ (p ≤ e → rn c e lo hi p ≤ e) ∧ (∀ i, p ≤ i → i < rn c e lo hi p → lo ≤ c i ∧ c i ≤ hi) ∧ (rn c e lo hi p < e → ¬ (lo ≤ c (rn c e lo hi p) ∧ c (rn c e lo hi p) ≤ hi)) := by
  intro m
  induction m with
  | zero =>
    intro p h
    rw [rn_out (fun q => by omega)]
    exact ⟨Nat.le_refl _, id, fun i a b => by omega, fun q => by omega⟩
  | succ m ih =>
    intro p h
    by_cases q : p < e ∧ lo ≤ c p ∧ c p ≤ hi
    · rw [rn_in q.1 q.2]
      obtain ⟨a1, a2, a3, a4⟩ := ih (p + 1) (by omega)
      refine ⟨by omega, fun _ => a2 (by omega), fun i h1 h2 => ?_, a4⟩
      by_cases z : i = p
      · subst z; exact q.2
      · exact a3 i (by omega) h2
    · rw [rn_out (fun z y => q ⟨z, y⟩)]
      exact ⟨Nat.le_refl _, id, fun i a b => by omega, fun z y => q ⟨z, y⟩⟩
theorem rn_ge : p ≤ rn c e lo hi p := (rn_ind c e lo hi e p (by omega)).1
theorem rn_le (h : p ≤ e) : rn c e lo hi p ≤ e := (rn_ind c e lo hi e p (by omega)).2.1 h
theorem rn_all {i : Nat} (h1 : p ≤ i) (h2 : i < rn c e lo hi p) : lo ≤ c i ∧ c i ≤ hi := (rn_ind c e lo hi e p (by omega)).2.2.1 i h1 h2
theorem rn_stop (h : rn c e lo hi p < e) : ¬ (lo ≤ c (rn c e lo hi p) ∧ c (rn c e lo hi p) ≤ hi) := (rn_ind c e lo hi e p (by omega)).2.2.2 h
theorem rn_rn : rn c e lo hi (rn c e lo hi p) = rn c e lo hi p := rn_out (fun h => rn_stop h)
end Spc
/-- behind blanks; behind letters; behind digits -/
abbrev bl (c : Nat → Nat) (e p : Nat) : Nat := rn c e 32 32 p
abbrev lx (c : Nat → Nat) (e p : Nat) : Nat := rn c e 97 122 p
abbrev dx (c : Nat → Nat) (e p : Nat) : Nat := rn c e 48 57 p
/-- a word of k letters as the class's number of it -/
def hw (c : Nat → Nat) (q : Nat) : Nat → Nat
  | 0 => 0
  | k + 1 => 32 * hw c q k + c (q + k) % 32
def wvK (c : Nat → Nat) (q k : Nat) : Int32 := if k ≤ 5 then nI (hw c q k) else -1
def nv (c : Nat → Nat) (q : Nat) : Nat → Nat
  | 0 => 0
  | k + 1 => 10 * nv c q k + (c (q + k) - 48)
def tnK (c : Nat → Nat) (q k : Nat) : Int32 := if 1 ≤ k ∧ k ≤ 3 then nI (nv c q k) else -1
def wv (c : Nat → Nat) (e q : Nat) : Int32 := wvK c q (lx c e q - q)
def tn (c : Nat → Nat) (e q : Nat) : Int32 := if lx c e q = q then tnK c q (dx c e q - q) else -1
def fs (c : Nat → Nat) (e q : Nat) : Int32 := if q < e then nI (c q) else -1
def bh (c : Nat → Nat) (e q : Nat) : Nat := if q < lx c e q then lx c e q else if q < dx c e q then dx c e q else q + 1
theorem hw_lt (c : Nat → Nat) (q : Nat) : ∀ k, hw c q k < 32 ^ k := by
  intro k
  induction k with
  | zero => exact Nat.one_pos
  | succ k ih =>
    show 32 * hw c q k + c (q + k) % 32 < 32 ^ (k + 1)
    rw [Nat.pow_succ]
    omega
theorem hw_b (c : Nat → Nat) (q : Nat) {k : Nat} (h : k ≤ 5) : hw c q k < 33554432 := Nat.lt_of_lt_of_le (hw_lt c q k) (Nat.pow_le_pow_right (n := 32) (by decide) h)
theorem hw_pos {c : Nat → Nat} {q : Nat} : ∀ {k : Nat}, (∀ i, q ≤ i → i < q + k → 97 ≤ c i ∧ c i ≤ 122) → 1 ≤ k → 1 ≤ hw c q k := by
  intro k h h1
  cases k with
  | zero => omega
  | succ k =>
    show 1 ≤ 32 * hw c q k + c (q + k) % 32
    have := h (q + k) (by omega) (by omega)
    omega
theorem nv_lt {c : Nat → Nat} {q : Nat} : ∀ {k : Nat}, (∀ i, q ≤ i → i < q + k → 48 ≤ c i ∧ c i ≤ 57) → nv c q k < 10 ^ k := by
  intro k
  induction k with
  | zero => intro _; exact Nat.one_pos
  | succ k ih =>
    intro h
    have h1 := ih (fun i a b => h i a (by omega))
    have h2 := h (q + k) (by omega) (by omega)
    show 10 * nv c q k + (c (q + k) - 48) < 10 ^ (k + 1)
    rw [Nat.pow_succ]
    omega
theorem nv_b {c : Nat → Nat} {q k : Nat} (h : ∀ i, q ≤ i → i < q + k → 48 ≤ c i ∧ c i ≤ 57) (hk : k ≤ 3) : nv c q k < 1000 := Nat.lt_of_lt_of_le (nv_lt h) (Nat.pow_le_pow_right (n := 10) (by decide) hk)
theorem rem32 : ∀ b, b < 256 → nI b - nI b / nI 32 * nI 32 = nI (b % 32) := by decide +kernel
theorem shl5 (h r : Nat) (hh : h < 1048576) (hr : r < 32) : (nI h <<< (nI 5 &&& 31)) ||| nI r = nI (32 * h + r) := by
  apply Int32.toBitVec_inj.mp
  rw [Int32.toBitVec_or, show (nI 5 &&& 31 : Int32) = 5 by decide]
  have e1 : (nI h <<< (5 : Int32)).toBitVec = (nI h).toBitVec <<< (5 : Nat) := by
    rw [Int32.toBitVec_shiftLeft]
    rfl
  rw [e1]
  apply BitVec.eq_of_toNat_eq
  rw [BitVec.toNat_or, BitVec.toNat_shiftLeft]
  have a1 : (nI h).toBitVec.toNat = h := by show (BitVec.ofNat 32 h).toNat = h; rw [BitVec.toNat_ofNat]; omega
  have a2 : (nI r).toBitVec.toNat = r := by show (BitVec.ofNat 32 r).toNat = r; rw [BitVec.toNat_ofNat]; omega
  have a3 : (nI (32 * h + r)).toBitVec.toNat = 32 * h + r := by show (BitVec.ofNat 32 _).toNat = _; rw [BitVec.toNat_ofNat]; omega
  rw [a1, a2, a3, Nat.shiftLeft_eq, Nat.mod_eq_of_lt (by omega), ← Nat.shiftLeft_eq, ← Nat.shiftLeft_add_eq_or_of_lt (by omega), Nat.shiftLeft_eq]
  omega
theorem max0 : ∀ v, v < 1000 → imax (nI v) (nI 0) = nI v := by decide +kernel
theorem min400 : ∀ v, v < 401 → imin (nI v) (nI 400) = nI v := by decide +kernel
