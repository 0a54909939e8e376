def fM (n : Nat) : Nat → Option Nat := fun j => if j < n then some (46 + 4 * j) else none
def GAM : List Shp := [
  .inl (8, [some (some 1), some (some 3), some (some 7), some (some 11), some (some 15), some (some 23), some (some 30), some (some 37), some (some 38), some (some 39), some (some 44), none, none]),
  .inl (7, [some (some 2), none, none, none, none, none, none]),
  .inr (.int, 400, fun _ => none),
  .inl (0, [none, none, none, none, none, none, none, none, none, some (some 4), some (some 5), some (some 6)]),
  .inr (.int, 56, fun _ => none),
  .inr (.int, 72, fun _ => none),
  .inr (.int, 240, fun _ => none),
  .inl (0, [none, none, none, none, none, none, none, none, none, some (some 8), some (some 9), some (some 10)]),
  .inr (.int, 56, fun _ => none),
  .inr (.int, 72, fun _ => none),
  .inr (.int, 240, fun _ => none),
  .inl (0, [none, none, none, none, none, none, none, none, none, some (some 12), some (some 13), some (some 14)]),
  .inr (.int, 56, fun _ => none),
  .inr (.int, 72, fun _ => none),
  .inr (.int, 240, fun _ => none),
  .inl (5, [some (some 16)]),
  .inl (2, [none, none, some (some 17), some (some 18), some (some 19), some (some 20), some (some 21), some (some 22)]),
  .inr (.int, 12, fun _ => none),
  .inr (.int, 12, fun _ => none),
  .inr (.int, 12, fun _ => none),
  .inr (.int, 400, fun _ => none),
  .inr (.int, 10, fun _ => none),
  .inr (.int, 32, fun _ => none),
  .inl (2, [none, none, some (some 24), some (some 25), some (some 26), some (some 27), some (some 28), some (some 29)]),
  .inr (.int, 12, fun _ => none),
  .inr (.int, 12, fun _ => none),
  .inr (.int, 12, fun _ => none),
  .inr (.int, 400, fun _ => none),
  .inr (.int, 10, fun _ => none),
  .inr (.int, 32, fun _ => none),
  .inl (2, [none, none, some (some 31), some (some 32), some (some 33), some (some 34), some (some 35), some (some 36)]),
  .inr (.int, 12, fun _ => none),
  .inr (.int, 12, fun _ => none),
  .inr (.int, 12, fun _ => none),
  .inr (.int, 400, fun _ => none),
  .inr (.int, 10, fun _ => none),
  .inr (.int, 32, fun _ => none),
  .inl (1, [none, some (some 1), some (some 7)]),
  .inl (3, [none, some (some 1), some (some 23)]),
  .inl (6, [some (some 15), some (some 7), none, none, some (some 40), some (some 41), some (some 42), some (some 43)]),
  .inr (.int, 8, fun _ => none),
  .inr (.int, 8, fun _ => none),
  .inr (.int, 8, fun _ => none),
  .inr (.int, 64, fun _ => none),
  .inl (4, [some (some 45), none, none]),
  .inr (.object "BorrowedLuck$Coast", 12, fM 12),
  .inl (0, [none, none, none, none, none, none, none, none, none, some (some 47), some (some 48), some (some 49)]),
  .inr (.int, 56, fun _ => none),
  .inr (.int, 72, fun _ => none),
  .inr (.int, 240, fun _ => none),
  .inl (0, [none, none, none, none, none, none, none, none, none, some (some 51), some (some 52), some (some 53)]),
  .inr (.int, 56, fun _ => none),
  .inr (.int, 72, fun _ => none),
  .inr (.int, 240, fun _ => none),
  .inl (0, [none, none, none, none, none, none, none, none, none, some (some 55), some (some 56), some (some 57)]),
  .inr (.int, 56, fun _ => none),
  .inr (.int, 72, fun _ => none),
  .inr (.int, 240, fun _ => none),
  .inl (0, [none, none, none, none, none, none, none, none, none, some (some 59), some (some 60), some (some 61)]),
  .inr (.int, 56, fun _ => none),
  .inr (.int, 72, fun _ => none),
  .inr (.int, 240, fun _ => none),
  .inl (0, [none, none, none, none, none, none, none, none, none, some (some 63), some (some 64), some (some 65)]),
  .inr (.int, 56, fun _ => none),
  .inr (.int, 72, fun _ => none),
  .inr (.int, 240, fun _ => none),
  .inl (0, [none, none, none, none, none, none, none, none, none, some (some 67), some (some 68), some (some 69)]),
  .inr (.int, 56, fun _ => none),
  .inr (.int, 72, fun _ => none),
  .inr (.int, 240, fun _ => none),
  .inl (0, [none, none, none, none, none, none, none, none, none, some (some 71), some (some 72), some (some 73)]),
  .inr (.int, 56, fun _ => none),
  .inr (.int, 72, fun _ => none),
  .inr (.int, 240, fun _ => none),
  .inl (0, [none, none, none, none, none, none, none, none, none, some (some 75), some (some 76), some (some 77)]),
  .inr (.int, 56, fun _ => none),
  .inr (.int, 72, fun _ => none),
  .inr (.int, 240, fun _ => none),
  .inl (0, [none, none, none, none, none, none, none, none, none, some (some 79), some (some 80), some (some 81)]),
  .inr (.int, 56, fun _ => none),
  .inr (.int, 72, fun _ => none),
  .inr (.int, 240, fun _ => none),
  .inl (0, [none, none, none, none, none, none, none, none, none, some (some 83), some (some 84), some (some 85)]),
  .inr (.int, 56, fun _ => none),
  .inr (.int, 72, fun _ => none),
  .inr (.int, 240, fun _ => none),
  .inl (0, [none, none, none, none, none, none, none, none, none, some (some 87), some (some 88), some (some 89)]),
  .inr (.int, 56, fun _ => none),
  .inr (.int, 72, fun _ => none),
  .inr (.int, 240, fun _ => none),
  .inl (0, [none, none, none, none, none, none, none, none, none, some (some 91), some (some 92), some (some 93)]),
  .inr (.int, 56, fun _ => none),
  .inr (.int, 72, fun _ => none),
  .inr (.int, 240, fun _ => none),
  .inl (9, [none, some (some 95), some (some 96), some (some 97), some (some 98), some (some 99), none, none, some (some 100), none, none, none, none, none, none, some (some 101), none, some (some 102), some (some 103), some (some 104), some (some 105), none, some (some 106)]),
  .inr (.int, 2075, fun _ => none),
  .inr (.int, 1226, fun _ => none),
  .inr (.int, 1226, fun _ => none),
  .inr (.int, 377, fun _ => none),
  .inr (.int, 4524, fun _ => none),
  .inr (.byte, 400, fun _ => none),
  .inr (.int, 5, fun _ => none),
  .inr (.int, 400, fun _ => none),
  .inr (.int, 4, fun _ => none),
  .inr (.int, 5, fun _ => none),
  .inr (.int, 5, fun _ => none),
  .inr (.int, 1536, fun _ => none),
  .inr (.long, 1, fun _ => none)]
def isC (c : Nat) : Prop := (∃ k, k < 3 ∧ c = 3 + 4 * k) ∨ ∃ k, k < 12 ∧ c = 46 + 4 * k
def isL (c : Nat) : Prop := c = 16 ∨ c = 23 ∨ c = 30
theorem gC {c : Nat} (h : isC c) : GAM[c + 0]? = some (.inl (0, [none, none, none, none, none, none, none, none, none, some (some (c + 1)), some (some (c + 2)), some (some (c + 3))])) := by
  rcases h with ⟨k, hk, rfl⟩ | ⟨k, hk, rfl⟩
  · match k, hk with
    | 0, _ => rfl
    | 1, _ => rfl
    | 2, _ => rfl
    | k + 3, hk => exact absurd hk (by omega)
  · match k, hk with
    | 0, _ => rfl
    | 1, _ => rfl
    | 2, _ => rfl
    | 3, _ => rfl
    | 4, _ => rfl
    | 5, _ => rfl
    | 6, _ => rfl
    | 7, _ => rfl
    | 8, _ => rfl
    | 9, _ => rfl
    | 10, _ => rfl
    | 11, _ => rfl
    | k + 12, hk => exact absurd hk (by omega)
theorem gC1 {c : Nat} (h : isC c) : GAM[c + 1]? = some (.inr (.int, 56, fun _ => none)) := by
  rcases h with ⟨k, hk, rfl⟩ | ⟨k, hk, rfl⟩
  · match k, hk with
    | 0, _ => rfl
    | 1, _ => rfl
    | 2, _ => rfl
    | k + 3, hk => exact absurd hk (by omega)
  · match k, hk with
    | 0, _ => rfl
    | 1, _ => rfl
    | 2, _ => rfl
    | 3, _ => rfl
    | 4, _ => rfl
    | 5, _ => rfl
    | 6, _ => rfl
    | 7, _ => rfl
    | 8, _ => rfl
    | 9, _ => rfl
    | 10, _ => rfl
    | 11, _ => rfl
    | k + 12, hk => exact absurd hk (by omega)
theorem gC2 {c : Nat} (h : isC c) : GAM[c + 2]? = some (.inr (.int, 72, fun _ => none)) := by
  rcases h with ⟨k, hk, rfl⟩ | ⟨k, hk, rfl⟩
  · match k, hk with
    | 0, _ => rfl
    | 1, _ => rfl
    | 2, _ => rfl
    | k + 3, hk => exact absurd hk (by omega)
  · match k, hk with
    | 0, _ => rfl
    | 1, _ => rfl
    | 2, _ => rfl
    | 3, _ => rfl
    | 4, _ => rfl
    | 5, _ => rfl
    | 6, _ => rfl
    | 7, _ => rfl
    | 8, _ => rfl
    | 9, _ => rfl
    | 10, _ => rfl
    | 11, _ => rfl
    | k + 12, hk => exact absurd hk (by omega)
theorem gC3 {c : Nat} (h : isC c) : GAM[c + 3]? = some (.inr (.int, 240, fun _ => none)) := by
  rcases h with ⟨k, hk, rfl⟩ | ⟨k, hk, rfl⟩
  · match k, hk with
    | 0, _ => rfl
    | 1, _ => rfl
    | 2, _ => rfl
    | k + 3, hk => exact absurd hk (by omega)
  · match k, hk with
    | 0, _ => rfl
    | 1, _ => rfl
    | 2, _ => rfl
    | 3, _ => rfl
    | 4, _ => rfl
    | 5, _ => rfl
    | 6, _ => rfl
    | 7, _ => rfl
    | 8, _ => rfl
    | 9, _ => rfl
    | 10, _ => rfl
    | 11, _ => rfl
    | k + 12, hk => exact absurd hk (by omega)
theorem gC0 {c : Nat} (h : isC c) : GAM[c]? = some (.inl (0, [none, none, none, none, none, none, none, none, none, some (some (c + 1)), some (some (c + 2)), some (some (c + 3))])) := gC h
theorem gL0 {c : Nat} (h : isL c) : GAM[c]? = some (.inl (2, [none, none, some (some (c + 1)), some (some (c + 2)), some (some (c + 3)), some (some (c + 4)), some (some (c + 5)), some (some (c + 6))])) := by
  rcases h with rfl | rfl | rfl <;> rfl
theorem gL1 {c : Nat} (h : isL c) : GAM[c + 1]? = some (.inr (.int, 12, fun _ => none)) := by
  rcases h with rfl | rfl | rfl <;> rfl
theorem gL2 {c : Nat} (h : isL c) : GAM[c + 2]? = some (.inr (.int, 12, fun _ => none)) := by
  rcases h with rfl | rfl | rfl <;> rfl
theorem gL3 {c : Nat} (h : isL c) : GAM[c + 3]? = some (.inr (.int, 12, fun _ => none)) := by
  rcases h with rfl | rfl | rfl <;> rfl
theorem gL4 {c : Nat} (h : isL c) : GAM[c + 4]? = some (.inr (.int, 400, fun _ => none)) := by
  rcases h with rfl | rfl | rfl <;> rfl
theorem gL5 {c : Nat} (h : isL c) : GAM[c + 5]? = some (.inr (.int, 10, fun _ => none)) := by
  rcases h with rfl | rfl | rfl <;> rfl
theorem gL6 {c : Nat} (h : isL c) : GAM[c + 6]? = some (.inr (.int, 32, fun _ => none)) := by
  rcases h with rfl | rfl | rfl <;> rfl
def Rp (v : Option Value) (J : Hi) : Rs → Hi → Prop := fun o K => o = .inl v ∧ K = J
theorem Ct.mk {G : Gx} {Ga : List Shp} {y : Ym} {d b : Nat} {vs : List Value} {I : Hi} {Q : Rs → Hi → Prop} (ls : List (Option Value)) (k : Rn G Ga y (kM G Ga Q) d b 0 ls [] I) (hy : plainName y.1.cls = true := by decide +kernel) (hc : vs.all (fun v => v.category == 1) = true := by rfl) (hn : vs.length ≤ y.2.2.1 := by exact Nat.le_of_ble_eq_true rfl)
    (hl : ls = vs.map some ++ List.replicate (y.2.2.1 - vs.length) none := by rfl) : Ct G Ga y d b vs I Q :=
  Ct.of hy (fun v hv => by simpa using List.all_eq_true.mp hc v hv) hn hl k
theorem Ct.weak {G : Gx} {Ga : List Shp} {y : Ym} {d b : Nat} {vs : List Value} {I : Hi} {Q Q' : Rs → Hi → Prop} (h : Ct G Ga y d b vs I Q) (hq : ∀ o J, Q o J → Q' o J) : Ct G Ga y d b vs I Q' := by
  intro sz
  intro p e ha hc hk s m args below hf hfit hP hK
  obtain ⟨t, o, h1, h2, h3, h4⟩ := h sz p e ha hc hk s m args below hf hfit hP hK
  refine ⟨t, o, h1, h2, h3, ?_⟩
  rcases h4 with ⟨⟨⟨v, J, e1, e2, e3⟩, e4⟩, h5⟩ | ⟨q, e1, E, ce, L, ⟨⟨J, e2, e3⟩, e4⟩, h5⟩
  · exact Or.inl ⟨⟨⟨v, J, e1, hq _ _ e2, e3⟩, e4⟩, h5⟩
  · exact Or.inr ⟨q, e1, E, ce, L, ⟨⟨J, hq _ _ e2, e3⟩, e4⟩, h5⟩
section RnN
variable {G : Gx} {Ga : List Shp} {Y : Ym} {kx : Kx} {d b pc pc' : Nat} {ls : List (Option Value)} {st : List Value} {I : Hi}
theorem Rn.topI {x : Int32} (y : Int32) (h : x = y) (k : Rn G Ga Y kx d b pc ls (.int y :: st) I) : Rn G Ga Y kx d b pc ls (.int x :: st) I := h ▸ k
theorem Rn.ialdN {a n j : Nat} {f : Nat → Option Nat} (hd : decode Y.2.1 pc = .ok (.iaload, 1)) (hG : Ga[a]? = some (.inr (.int, n, f))) (k : Rn G Ga Y kx d b pc' ls (.int (I a j) :: st) I) (hj : j < n := by omega) (hn : n < 2147483648 := by decide) (hp : pc + 1 = pc' := by rfl) : Rn G Ga Y kx d b pc ls (.int (nI j) :: .ref a :: st) I := by
  refine Rn.iald hd hG (vp_in_nI hj (by omega)) ?_ hp
  rw [nI_clamp (by omega)]
  exact k
theorem Rn.baldN {a n j : Nat} {f : Nat → Option Nat} (hd : decode Y.2.1 pc = .ok (.baload, 1)) (hG : Ga[a]? = some (.inr (.byte, n, f))) (k : Rn G Ga Y kx d b pc' ls (.int (I a j) :: st) I) (hj : j < n := by omega) (hn : n < 2147483648 := by decide) (hp : pc + 1 = pc' := by rfl) : Rn G Ga Y kx d b pc ls (.int (nI j) :: .ref a :: st) I := by
  refine Rn.bald hd hG (vp_in_nI hj (by omega)) ?_ hp
  rw [nI_clamp (by omega)]
  exact k
theorem Rn.iastN {a n j : Nat} {f : Nat → Option Nat} {x : Int32} (hd : decode Y.2.1 pc = .ok (.iastore, 1)) (hG : Ga[a]? = some (.inr (.int, n, f))) (k : Rn G Ga Y kx d b pc' ls st (zup I a j x)) (hj : j < n := by omega) (hn : n < 2147483648 := by decide) (hp : pc + 1 = pc' := by rfl) : Rn G Ga Y kx d b pc ls (.int x :: .int (nI j) :: .ref a :: st) I := by
  refine Rn.iast hd hG (vp_in_nI hj (by omega)) ?_ hp
  rw [nI_clamp (by omega)]
  exact k
theorem Rn.bastN {a n j : Nat} {f : Nat → Option Nat} {x : Int32} (hd : decode Y.2.1 pc = .ok (.bastore, 1)) (hG : Ga[a]? = some (.inr (.byte, n, f))) (k : Rn G Ga Y kx d b pc' ls st (zup I a j (vp_nar .byte x))) (hj : j < n := by omega) (hn : n < 2147483648 := by decide) (hp : pc + 1 = pc' := by rfl) : Rn G Ga Y kx d b pc ls (.int x :: .int (nI j) :: .ref a :: st) I := by
  refine Rn.bast hd hG (vp_in_nI hj (by omega)) ?_ hp
  rw [nI_clamp (by omega)]
  exact k
theorem Rn.if_ltN {x : Nat} {off : Int} (hd : decode Y.2.1 pc = .ok (.ifCond .lt off, 3)) (k : Rn G Ga Y kx d b pc' ls st I) (tgt : Nat) (ht : (pc : Int) + off = (tgt : Int) := by decide) (hx : x < 2147483648 := by omega) (hp : pc + 3 = pc' := by rfl) : Rn G Ga Y kx d b pc ls (.int (nI x) :: st) I := Rn.if_lt hd ht (fun h => absurd h (nI_pos hx)) (fun _ => k) hp
theorem Rn.if_geN {x : Nat} {off : Int} (hd : decode Y.2.1 pc = .ok (.ifCond .ge off, 3)) (tgt : Nat) (k : Rn G Ga Y kx d b tgt ls st I) (ht : (pc : Int) + off = (tgt : Int) := by decide) (hx : x < 2147483648 := by omega) : Rn G Ga Y kx d b pc ls (.int (nI x) :: st) I := Rn.if_ge (pc' := pc + 3) hd ht (fun _ => k) (fun h => absurd (nI_pos' hx) h) rfl
theorem nI_z {x : Nat} (hx : x < 2147483648) : nI x = 0 ↔ x = 0 := by rw [← nI_0]; exact nI_eq (by omega) (by omega)
theorem nI_le0 {x : Nat} (hx : x < 2147483648) : nI x ≤ 0 ↔ x ≤ 0 := by rw [← nI_0]; exact nI_leI (by omega) (by omega)
theorem nI_gt0 {x : Nat} (hx : x < 2147483648) : 0 < nI x ↔ 0 < x := by rw [← nI_0]; exact nI_ltI (by omega) (by omega)
theorem Rn.if_eqN {x : Nat} {off : Int} (hd : decode Y.2.1 pc = .ok (.ifCond .eq off, 3)) (tgt : Nat) (kt : x = 0 → Rn G Ga Y kx d b tgt ls st I) (kf : x ≠ 0 → Rn G Ga Y kx d b pc' ls st I) (ht : (pc : Int) + off = (tgt : Int) := by decide) (hx : x < 2147483648 := by omega) (hp : pc + 3 = pc' := by rfl) : Rn G Ga Y kx d b pc ls (.int (nI x) :: st) I := Rn.if_eq hd ht (fun h => kt ((nI_z hx).mp h)) (fun h => kf (fun q => h ((nI_z hx).mpr q))) hp
theorem Rn.if_neN {x : Nat} {off : Int} (hd : decode Y.2.1 pc = .ok (.ifCond .ne off, 3)) (tgt : Nat) (kt : x ≠ 0 → Rn G Ga Y kx d b tgt ls st I) (kf : x = 0 → Rn G Ga Y kx d b pc' ls st I) (ht : (pc : Int) + off = (tgt : Int) := by decide) (hx : x < 2147483648 := by omega) (hp : pc + 3 = pc' := by rfl) : Rn G Ga Y kx d b pc ls (.int (nI x) :: st) I := Rn.if_ne hd ht (fun h => kt (fun q => h ((nI_z hx).mpr q))) (fun h => kf ((nI_z hx).mp h)) hp
theorem Rn.if_leN {x : Nat} {off : Int} (hd : decode Y.2.1 pc = .ok (.ifCond .le off, 3)) (tgt : Nat) (kt : x = 0 → Rn G Ga Y kx d b tgt ls st I) (kf : x ≠ 0 → Rn G Ga Y kx d b pc' ls st I) (ht : (pc : Int) + off = (tgt : Int) := by decide) (hx : x < 2147483648 := by omega) (hp : pc + 3 = pc' := by rfl) : Rn G Ga Y kx d b pc ls (.int (nI x) :: st) I := Rn.if_le hd ht (fun h => kt (by have := (nI_le0 hx).mp h; omega)) (fun h => kf (fun q => h ((nI_le0 hx).mpr (by omega)))) hp
theorem Rn.if_gtN {x : Nat} {off : Int} (hd : decode Y.2.1 pc = .ok (.ifCond .gt off, 3)) (tgt : Nat) (kt : x ≠ 0 → Rn G Ga Y kx d b tgt ls st I) (kf : x = 0 → Rn G Ga Y kx d b pc' ls st I) (ht : (pc : Int) + off = (tgt : Int) := by decide) (hx : x < 2147483648 := by omega) (hp : pc + 3 = pc' := by rfl) : Rn G Ga Y kx d b pc ls (.int (nI x) :: st) I := Rn.if_gt hd ht (fun h => kt (by have := (nI_gt0 hx).mp h; omega)) (fun h => kf (by false_or_by_contra; exact h ((nI_gt0 hx).mpr (by omega)))) hp
theorem Rn.icmp_eqN {x y : Nat} {off : Int} (hd : decode Y.2.1 pc = .ok (.if_icmp .eq off, 3)) (tgt : Nat) (kt : x = y → Rn G Ga Y kx d b tgt ls st I) (kf : x ≠ y → Rn G Ga Y kx d b pc' ls st I) (ht : (pc : Int) + off = (tgt : Int) := by decide) (hx : x < 2147483648 := by omega) (hy : y < 2147483648 := by omega) (hp : pc + 3 = pc' := by rfl) : Rn G Ga Y kx d b pc ls (.int (nI y) :: .int (nI x) :: st) I := Rn.icmp_eq hd ht (fun h => kt ((nI_eq hx hy).mp h)) (fun h => kf (fun q => h ((nI_eq hx hy).mpr q))) hp
theorem Rn.icmp_neN {x y : Nat} {off : Int} (hd : decode Y.2.1 pc = .ok (.if_icmp .ne off, 3)) (tgt : Nat) (kt : x ≠ y → Rn G Ga Y kx d b tgt ls st I) (kf : x = y → Rn G Ga Y kx d b pc' ls st I) (ht : (pc : Int) + off = (tgt : Int) := by decide) (hx : x < 2147483648 := by omega) (hy : y < 2147483648 := by omega) (hp : pc + 3 = pc' := by rfl) : Rn G Ga Y kx d b pc ls (.int (nI y) :: .int (nI x) :: st) I := Rn.icmp_ne hd ht (fun h => kt (fun q => h ((nI_eq hx hy).mpr q))) (fun h => kf ((nI_eq hx hy).mp h)) hp
theorem Rn.icmp_ltN {x y : Nat} {off : Int} (hd : decode Y.2.1 pc = .ok (.if_icmp .lt off, 3)) (tgt : Nat) (kt : x < y → Rn G Ga Y kx d b tgt ls st I) (kf : y ≤ x → Rn G Ga Y kx d b pc' ls st I) (ht : (pc : Int) + off = (tgt : Int) := by decide) (hx : x < 2147483648 := by omega) (hy : y < 2147483648 := by omega) (hp : pc + 3 = pc' := by rfl) : Rn G Ga Y kx d b pc ls (.int (nI y) :: .int (nI x) :: st) I := Rn.icmp_lt hd ht (fun h => kt ((nI_ltI hx hy).mp h)) (fun h => kf (Nat.not_lt.mp fun q => h ((nI_ltI hx hy).mpr q))) hp
theorem Rn.icmp_geN {x y : Nat} {off : Int} (hd : decode Y.2.1 pc = .ok (.if_icmp .ge off, 3)) (tgt : Nat) (kt : y ≤ x → Rn G Ga Y kx d b tgt ls st I) (kf : x < y → Rn G Ga Y kx d b pc' ls st I) (ht : (pc : Int) + off = (tgt : Int) := by decide) (hx : x < 2147483648 := by omega) (hy : y < 2147483648 := by omega) (hp : pc + 3 = pc' := by rfl) : Rn G Ga Y kx d b pc ls (.int (nI y) :: .int (nI x) :: st) I := Rn.icmp_ge hd ht (fun h => kt ((nI_leI hy hx).mp h)) (fun h => kf (Nat.not_le.mp fun q => h ((nI_leI hy hx).mpr q))) hp
theorem Rn.icmp_gtN {x y : Nat} {off : Int} (hd : decode Y.2.1 pc = .ok (.if_icmp .gt off, 3)) (tgt : Nat) (kt : y < x → Rn G Ga Y kx d b tgt ls st I) (kf : x ≤ y → Rn G Ga Y kx d b pc' ls st I) (ht : (pc : Int) + off = (tgt : Int) := by decide) (hx : x < 2147483648 := by omega) (hy : y < 2147483648 := by omega) (hp : pc + 3 = pc' := by rfl) : Rn G Ga Y kx d b pc ls (.int (nI y) :: .int (nI x) :: st) I := Rn.icmp_gt hd ht (fun h => kt ((nI_ltI hy hx).mp h)) (fun h => kf (Nat.not_lt.mp fun q => h ((nI_ltI hy hx).mpr q))) hp
theorem Rn.icmp_leN {x y : Nat} {off : Int} (hd : decode Y.2.1 pc = .ok (.if_icmp .le off, 3)) (tgt : Nat) (kt : x ≤ y → Rn G Ga Y kx d b tgt ls st I) (kf : y < x → Rn G Ga Y kx d b pc' ls st I) (ht : (pc : Int) + off = (tgt : Int) := by decide) (hx : x < 2147483648 := by omega) (hy : y < 2147483648 := by omega) (hp : pc + 3 = pc' := by rfl) : Rn G Ga Y kx d b pc ls (.int (nI y) :: .int (nI x) :: st) I := Rn.icmp_le hd ht (fun h => kt ((nI_leI hx hy).mp h)) (fun h => kf (Nat.not_le.mp fun q => h ((nI_leI hx hy).mpr q))) hp
theorem Rn.iincN {i x : Nat} (hd : decode Y.2.1 pc = .ok (.iinc i 1, 3)) (h : ls[i]? = some (some (.int (nI x)))) (hn : i < Y.2.2.1) (k : Rn G Ga Y kx d b pc' (ls.set i (some (.int (nI (x + 1))))) st I) (hp : pc + 3 = pc' := by rfl) : Rn G Ga Y kx d b pc ls st I := Rn.iinc hd h (nI_1 x) hn k hp
theorem Rn.callVp {C : String} {T : u_T} {N ci idx a n : Nat} {fl : List (Option (Option Nat))} {As rest : List Value} {y : Ym} {v : Option Value} {J : Hi} (hd : decode Y.2.1 pc = .ok (.invokevirtual idx, 3)) (hM : zMv Y.1.cls idx C y n) (hG : Ga[a]? = some (.inl (ci, fl))) (hC : vwCl[ci]? = some (C, T, N))
    (hst : st = As.reverse ++ .ref a :: rest) (hn : As.length = n) (hr : (rest.map fun v => v.category).sum ≤ 8) (hct : Ct G Ga y d 0 (.ref a :: As) I (Rp v J))
    (k : Rn G Ga Y kx (d + 1) b pc' ls (v.toList ++ rest) J) (hp : pc + 3 = pc' := by rfl) : Rn G Ga Y kx (d + 1) b pc ls st I :=
  Rn.callV hd hM hG hC hst hn hr hct (fun E J h => nomatch h.1) (fun w K h => by obtain ⟨h1, h2⟩ := h; cases h1; cases h2; exact k) hp
theorem Rn.callSp {idx n : Nat} {As rest : List Value} {y : Ym} {v : Option Value} {J : Hi} (hd : decode Y.2.1 pc = .ok (.invokestatic idx, 3)) (hM : zMs Y.1.cls idx y n)
    (hst : st = As.reverse ++ rest) (hn : As.length = n) (hr : (rest.map fun v => v.category).sum ≤ 8) (hct : Ct G Ga y d 0 As I (Rp v J))
    (k : Rn G Ga Y kx (d + 1) b pc' ls (v.toList ++ rest) J) (hp : pc + 3 = pc' := by rfl) : Rn G Ga Y kx (d + 1) b pc ls st I :=
  Rn.callS hd hM hst hn hr hct (fun E J h => nomatch h.1) (fun w K h => by obtain ⟨h1, h2⟩ := h; cases h1; cases h2; exact k) hp
end RnN

