/-! the rules of growth with numbers in place of lengths -/
def zokb (n : Nat) : Shp → Bool
  | .inl q => q.2.all (fun x => match x with | some (some r) => Nat.blt r n | _ => true)
  | .inr (.object _, _, _) => false
  | .inr _ => true
theorem zokb_ok {n : Nat} {sh : Shp} (h : zokb n sh = true) : zok n sh := by
  cases sh with
  | inl q =>
    intro x hx r hr
    have := List.all_eq_true.mp (show q.2.all (fun x => match x with | some (some r) => Nat.blt r n | _ => true) = true from h) x hx
    rw [hr] at this
    exact Nat.blt_eq.mp this
  | inr q =>
    obtain ⟨ty, len, f⟩ := q
    rintro ⟨C, hC⟩
    cases hC
    exact nomatch h
theorem zOKb {Ga : List Shp} {n : Nat} (h : Ga.all (zokb n) = true) : zOK Ga n := fun sh hs => zokb_ok (List.all_eq_true.mp h sh hs)
theorem zok_fM {n m k : Nat} (h : 42 + 4 * m < n) : zok n (.inr (.object "BorrowedLuck$Coast", k, fM m)) := by
  intro _ j r hr
  have hr : fM m j = some r := hr
  simp only [fM] at hr
  split at hr
  · cases hr; omega
  · cases hr
section GrowY
variable {G0 : Gx} {K : Kx} {n0 n : Nat} {ad : Nat → Nat} {Ga : List Shp} {Y : Ym} {d b pc pc' : Nat} {ls : List (Option Value)} {st : List Value} {I : Hi}
theorem Rn.newY {idx ci N k : Nat} {fl : List (Option (Option Nat))} (hd : decode Y.2.1 pc = .ok (.new idx, 3)) (hN : zNw Y.1.cls idx ci N fl) (hn0 : Ga.length = n) (hok : zOK Ga n) (hz : I n = fun _ => 0) (hv : zlt n (n + 1) ls st = true) (hn : n < 900) (hk1 : 1 ≤ k) (hk6 : N ≤ 6 * k)
    (kk : ∀ ad', Rn (gw G0 ad') (Ga ++ [.inl (ci, fl)]) Y (kZ K G0 n0 ad' (n + 1)) d b pc' ls (.ref n :: st) I) (hp : pc + 3 = pc' := by rfl) : Rn (gw G0 ad) Ga Y (kZ K G0 n0 ad n) d (b + k) pc ls st I := by
  subst hn0
  exact Rn.newZ hd hN hok hz hv hn hk1 hk6 kk hp
theorem Rn.newaY {len k : Nat} {at_ : ArrayType} {ty : FieldType} {x : Int32} (hd : decode Y.2.1 pc = .ok (.newarray at_, 2)) (hty : newarray.typeOf at_ = ty) (ht3 : ty = .int ∨ ty = .byte ∨ ty = .long) (hw : Cond.arrayClass ty ∈ WA) (hx : x = nI len) (hn9 : len < 100000) (hn0 : Ga.length = n) (hok : zOK Ga n) (hz : I n = fun _ => 0) (hv : zlt n (n + 1) ls st = true) (hn : n < 900) (hk1 : 1 ≤ k) (hk6 : len ≤ 6 * k)
    (kk : ∀ ad', Rn (gw G0 ad') (Ga ++ [.inr (ty, len, fun _ => none)]) Y (kZ K G0 n0 ad' (n + 1)) d b pc' ls (.ref n :: st) I) (hp : pc + 2 = pc' := by rfl) : Rn (gw G0 ad) Ga Y (kZ K G0 n0 ad n) d (b + k) pc ls (.int x :: st) I := by
  subst hn0
  exact Rn.newaZ hd hty ht3 hw hx hn9 hok hz hv hn hk1 hk6 kk hp
theorem Rn.newqY {len k idx : Nat} {x : Int32} (hd : decode Y.2.1 pc = .ok (.anewarray idx, 3)) (hw : Cond.classLink Y.1.cls idx "BorrowedLuck$Coast" ∈ WA) (hx : x = nI len) (hn9 : len < 100000) (hn0 : Ga.length = n) (hok : zOK Ga n) (hv : zlt n (n + 1) ls st = true) (hn : n < 900) (hk1 : 1 ≤ k) (hk6 : len ≤ 6 * k)
    (kk : ∀ ad', Rn (gw G0 ad') (Ga ++ [.inr (.object "BorrowedLuck$Coast", len, fun _ => none)]) Y (kZ K G0 n0 ad' (n + 1)) d b pc' ls (.ref n :: st) I) (hp : pc + 3 = pc' := by rfl) : Rn (gw G0 ad) Ga Y (kZ K G0 n0 ad n) d (b + k) pc ls (.int x :: st) I := by
  subst hn0
  exact Rn.newqZ hd hw hx hn9 hok hv hn hk1 hk6 kk hp
theorem Rn.ctorY {idx a na mc n2 : Nat} {As rest : List Value} {y : Ym} {Gb : List Shp} {J : Hi} (hd : decode Y.2.1 pc = .ok (.invokespecial idx, 3)) (hM : zMi Y.1.cls idx y na ∨ zMn Y.1.cls idx y na) (hy0 : y.2.2.2 = none)
    (hst : st = As.reverse ++ .ref a :: rest) (hna : As.length = na) (hr : (rest.map fun v => v.category).sum ≤ 8) (hct : Cn (gw G0 ad) Ga y d mc (.ref a :: As) I Gb J) (hn0 : Ga.length = n) (hn2 : Gb.length = n2) (hv : zlt n n2 ls rest = true) (hg : n ≤ n2) (hg9 : n2 ≤ 900)
    (k : ∀ ad', Rn (gw G0 ad') Gb Y (kZ K G0 n0 ad' n2) (d + 1) b pc' ls rest J) (hp : pc + 3 = pc' := by rfl) : Rn (gw G0 ad) Ga Y (kZ K G0 n0 ad n) (d + 1) (b + mc) pc ls st I := by
  subst hn0
  subst hn2
  exact Rn.ctor hd hM hy0 hst hna hr hct hv hg hg9 k hp
theorem Rn.wld {G : Gx} {kx : Kx} (Gb : List Shp) (h : Ga = Gb) (k : Rn G Gb Y kx d b pc ls st I) : Rn G Ga Y kx d b pc ls st I := h ▸ k
theorem Rn.nretY {Ga0 Gb : List Shp} {J : Hi} {m : Nat} (hd : decode Y.2.1 pc = .ok (.return_, 1)) (hr : Y.2.2.2 = none) (h0 : Ga0.length = m) (hb : Gb.length = n) : Rn (gw G0 ad) Gb Y (kZ (kE G0 Ga0 Gb J) G0 m ad n) d b pc ls [] J := by
  subst h0
  subst hb
  exact Rn.nret hd hr
theorem Cn.mkY {G : Gx} {Gb : List Shp} {y : Ym} {vs : List Value} {J : Hi} (ls : List (Option Value)) (hn0 : Ga.length = n) (k : ∀ ad, Rn (gw G ad) Ga y (kZ (kE G Ga Gb J) G n ad n) d b 0 ls [] I) (hn9 : n ≤ 900 := by decide) (hy : plainName y.1.cls = true := by decide +kernel) (hc : vs.all (fun v => v.category == 1) = true := by rfl) (hn : vs.length ≤ y.2.2.1 := by exact Nat.le_of_ble_eq_true rfl)
    (hl : ls = vs.map some ++ List.replicate (y.2.2.1 - vs.length) none := by rfl) : Cn G Ga y d b vs I Gb J := by
  subst hn0
  exact Cn.mk ls k hn9 hy hc hn hl
end GrowY
abbrev ia (n : Nat) : Shp := .inr (.int, n, fun _ => none)
abbrev shC (c : Nat) : Shp := .inl (0, [none, none, none, none, none, none, none, none, none, some (some (c + 1)), some (some (c + 2)), some (some (c + 3))])
abbrev shC0 : Shp := .inl (0, [none, none, none, none, none, none, none, none, none, some none, some none, some none])
abbrev shL (c : Nat) : Shp := .inl (2, [none, none, some (some (c + 1)), some (some (c + 2)), some (some (c + 3)), some (some (c + 4)), some (some (c + 5)), some (some (c + 6))])
abbrev shL0 : Shp := .inl (2, [none, none, some none, some none, some none, some none, some none, some none])
/-- the object's fields of which the first k are set -/
def fB (k : Nat) : List (Option (Option Nat)) := (([1, 3, 7, 11, 15, 23, 30, 37, 38, 39, 44] : List Nat).mapIdx (fun i r => if i < k then some (some r) else some none)) ++ [none, none]
/-- the world in which the first k fields are set and the cells 1 to n stand -/
def wB (k n : Nat) : List Shp := .inl (8, fB k) :: (GAM.drop 1).take n
/-- the world in which j of the memory's coasts stand -/
def wM (j : Nat) : List Shp := wB 10 44 ++ [.inr (.object "BorrowedLuck$Coast", 12, fM j)] ++ (GAM.drop 46).take (4 * j)
