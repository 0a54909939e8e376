/-! ===== a checker of methods: a walk over bytecode with intervals; this part: numbers ===== -/
abbrev Iv : Type := Int × Int
/-- m times the variable v and c -/
abbrev Af : Type := Nat × Int × Int
abbrev SV : Type := Af ⊕ Option Nat
abbrev Kb : Type := List ((Nat × Nat) × Af)
/-- intervals of the variables, locals, stack, what is known of the heap -/
abbrev Ast : Type := List Iv × List (Option SV) × List SV × Kb
def ivF : Iv := (-2147483648, 2147483647)
def inIv (i : Iv) (x : Int32) : Prop := i.1 ≤ x.toInt ∧ x.toInt ≤ i.2
theorem inIv_F (x : Int32) : inIv ivF x := by
  have h1 := Int32.le_toInt x
  have h2 := Int32.toInt_lt x
  constructor
  · show (-2147483648 : Int) ≤ _; omega
  · show _ ≤ (2147483647 : Int); omega
theorem toI_of {n : Int} (h1 : -2147483648 ≤ n) (h2 : n ≤ 2147483647) : (Int32.ofInt n).toInt = n := Int32.toInt_ofInt_of_le (by omega) (by omega)
def evI (r : Nat → Int32) (a : Af) : Int32 := Int32.ofInt (a.2.1 * (r a.1).toInt + a.2.2)
def evV (r : Nat → Int32) : SV → Value
  | .inl a => .int (evI r a)
  | .inr (some q) => .ref q
  | .inr none => .null
def evL (r : Nat → Int32) (L : List (Option SV)) : List (Option Value) := L.map (fun o => o.map (evV r))
def evS (r : Nat → Int32) (st : List SV) : List Value := st.map (evV r)
theorem evI_c (r : Nat → Int32) (v : Nat) (c : Int) : evI r (v, 0, c) = Int32.ofInt c := by simp [evI]
theorem evI_v (r : Nat → Int32) (v : Nat) : evI r (v, 1, 0) = r v := by simp [evI]
theorem evI_k (r : Nat → Int32) (v : Nat) (x : Int32) : evI r (v, 0, x.toInt) = x := by simp [evI]
def Sat (r : Nat → Int32) (g : List Iv) : Prop := ∀ v i, g[v]? = some i → inIv i (r v)
def ivV (g : List Iv) (v : Nat) : Iv := (g[v]?).getD ivF
theorem ivV_ok {r : Nat → Int32} {g : List Iv} (h : Sat r g) (v : Nat) : inIv (ivV g v) (r v) := by
  unfold ivV
  cases e : g[v]? with
  | none => exact inIv_F _
  | some i => exact h v i e
def okB (i : Iv) : Bool := decide (-2147483648 ≤ i.1) && decide (i.2 ≤ 2147483647)
def rawI (g : List Iv) (a : Af) : Iv :=
  if a.2.1 = 0 then (a.2.2, a.2.2) else if 0 < a.2.1 then (a.2.1 * (ivV g a.1).1 + a.2.2, a.2.1 * (ivV g a.1).2 + a.2.2) else (a.2.1 * (ivV g a.1).2 + a.2.2, a.2.1 * (ivV g a.1).1 + a.2.2)
theorem rawI_ok {r : Nat → Int32} {g : List Iv} {a : Af} (h : Sat r g) : (rawI g a).1 ≤ a.2.1 * (r a.1).toInt + a.2.2 ∧ a.2.1 * (r a.1).toInt + a.2.2 ≤ (rawI g a).2 := by
  obtain ⟨h1, h2⟩ := ivV_ok h a.1
  unfold rawI
  split
  · rename_i e
    rw [e]
    simp
  · split
    · rename_i e
      have k1 := Int.mul_le_mul_of_nonneg_left h1 (Int.le_of_lt e)
      have k2 := Int.mul_le_mul_of_nonneg_left h2 (Int.le_of_lt e)
      constructor <;> simp only <;> omega
    · rename_i e
      have e : a.2.1 ≤ 0 := Int.not_lt.mp e
      have k1 := Int.mul_le_mul_of_nonpos_left e h1
      have k2 := Int.mul_le_mul_of_nonpos_left e h2
      constructor <;> simp only <;> omega
def ivA (g : List Iv) (a : Af) : Iv := if okB (rawI g a) = true then rawI g a else ivF
theorem okB_ok {i : Iv} (h : okB i = true) : -2147483648 ≤ i.1 ∧ i.2 ≤ 2147483647 := by
  simpa [okB] using h
theorem evI_raw {r : Nat → Int32} {g : List Iv} {a : Af} (h : Sat r g) (hb : okB (rawI g a) = true) : (evI r a).toInt = a.2.1 * (r a.1).toInt + a.2.2 := by
  obtain ⟨h1, h2⟩ := rawI_ok (a := a) h
  obtain ⟨h3, h4⟩ := okB_ok hb
  exact toI_of (by omega) (by omega)
theorem ivA_ok {r : Nat → Int32} {g : List Iv} (h : Sat r g) (a : Af) : inIv (ivA g a) (evI r a) := by
  unfold ivA
  split
  · rename_i hb
    have h2 := rawI_ok (a := a) h
    rw [← evI_raw h hb] at h2
    exact h2
  · exact inIv_F _
theorem Sat_set {r : Nat → Int32} {g : List Iv} {v : Nat} {j : Iv} (h : Sat r g) (hj : inIv j (r v)) : Sat r (g.set v j) := by
  intro w i hw
  rw [List.getElem?_set] at hw
  split at hw
  · rename_i e
    subst e
    split at hw
    · cases hw; exact hj
    · cases hw
  · exact h w i hw
def cutH (g : List Iv) (a : Af) (b : Int) : List Iv := if a.2.1 = 1 ∧ okB (rawI g a) = true then g.set a.1 ((ivV g a.1).1, min (ivV g a.1).2 (b - a.2.2)) else g
def cutL (g : List Iv) (a : Af) (b : Int) : List Iv := if a.2.1 = 1 ∧ okB (rawI g a) = true then g.set a.1 (max (ivV g a.1).1 (b - a.2.2), (ivV g a.1).2) else g
theorem cutH_ok {r : Nat → Int32} {g : List Iv} {a : Af} {b : Int} (h : Sat r g) (hb : (evI r a).toInt ≤ b) : Sat r (cutH g a b) := by
  unfold cutH
  split
  · rename_i e
    have h1 := evI_raw h e.2
    rw [e.1, Int.one_mul] at h1
    obtain ⟨h2, h3⟩ := ivV_ok h a.1
    exact Sat_set h ⟨h2, by simp only; omega⟩
  · exact h
theorem cutL_ok {r : Nat → Int32} {g : List Iv} {a : Af} {b : Int} (h : Sat r g) (hb : b ≤ (evI r a).toInt) : Sat r (cutL g a b) := by
  unfold cutL
  split
  · rename_i e
    have h1 := evI_raw h e.2
    rw [e.1, Int.one_mul] at h1
    obtain ⟨h2, h3⟩ := ivV_ok h a.1
    exact Sat_set h ⟨by simp only; omega, h3⟩
  · exact h
/-- a and d is at most b -/
def refLe (g : List Iv) (a b : Af) (d : Int) : Option (List Iv) := if (ivA g b).2 < (ivA g a).1 + d then none else some (cutL (cutH g a ((ivA g b).2 - d)) b ((ivA g a).1 + d))
def refEq (g : List Iv) (a b : Af) : Option (List Iv) := if (ivA g a).2 < (ivA g b).1 ∨ (ivA g b).2 < (ivA g a).1 then none else some (cutH (cutL (cutH (cutL g a (ivA g b).1) a (ivA g b).2) b (ivA g a).1) b (ivA g a).2)
def refNe (g : List Iv) (a b : Af) : Option (List Iv) :=
  if (ivA g b).1 = (ivA g b).2 then
    (if (ivA g a).1 = (ivA g b).1 ∧ (ivA g a).2 = (ivA g b).1 then none else if (ivA g a).1 = (ivA g b).1 then some (cutL g a ((ivA g a).1 + 1)) else if (ivA g a).2 = (ivA g b).1 then some (cutH g a ((ivA g a).2 - 1)) else some g)
  else if (ivA g a).1 = (ivA g a).2 then
    (if (ivA g b).1 = (ivA g a).1 then some (cutL g b ((ivA g b).1 + 1)) else if (ivA g b).2 = (ivA g a).1 then some (cutH g b ((ivA g b).2 - 1)) else some g)
  else some g
theorem refLe_ok {r : Nat → Int32} {g : List Iv} {a b : Af} {d : Int} (h : Sat r g) (hl : (evI r a).toInt + d ≤ (evI r b).toInt) : ∃ g', refLe g a b d = some g' ∧ Sat r g' := by
  have ha := ivA_ok h a
  have hb := ivA_ok h b
  unfold inIv at ha hb
  unfold refLe
  rw [if_neg (by omega)]
  exact ⟨_, rfl, cutL_ok (cutH_ok h (by omega)) (by omega)⟩
theorem refEq_ok {r : Nat → Int32} {g : List Iv} {a b : Af} (h : Sat r g) (hl : evI r a = evI r b) : ∃ g', refEq g a b = some g' ∧ Sat r g' := by
  have ha := ivA_ok h a
  have hb := ivA_ok h b
  unfold inIv at ha hb
  have hl2 : (evI r a).toInt = (evI r b).toInt := by rw [hl]
  unfold refEq
  rw [if_neg (by omega)]
  exact ⟨_, rfl, cutH_ok (cutL_ok (cutH_ok (cutL_ok h (by omega)) (by omega)) (by omega)) (by omega)⟩
theorem refNe_ok {r : Nat → Int32} {g : List Iv} {a b : Af} (h : Sat r g) (hl : ¬ evI r a = evI r b) : ∃ g', refNe g a b = some g' ∧ Sat r g' := by
  have ha := ivA_ok h a
  have hb := ivA_ok h b
  unfold inIv at ha hb
  have hl2 : (evI r a).toInt ≠ (evI r b).toInt := fun e => hl (Int32.toInt_inj.mp e)
  unfold refNe
  split
  · rw [if_neg (by omega)]
    split
    · exact ⟨_, rfl, cutL_ok h (by omega)⟩
    · split
      · exact ⟨_, rfl, cutH_ok h (by omega)⟩
      · exact ⟨_, rfl, h⟩
  · split
    · split
      · exact ⟨_, rfl, cutL_ok h (by omega)⟩
      · split
        · exact ⟨_, rfl, cutH_ok h (by omega)⟩
        · exact ⟨_, rfl, h⟩
    · exact ⟨_, rfl, h⟩
abbrev Cc : Type := Jvm.ClassFile.Cond
def cmpP : Cc → Int32 → Int32 → Prop
  | .eq, x, y => x = y
  | .ne, x, y => ¬ x = y
  | .lt, x, y => x < y
  | .ge, x, y => y ≤ x
  | .gt, x, y => y < x
  | .le, x, y => x ≤ y
def refT (g : List Iv) (a b : Af) : Cc → Option (List Iv)
  | .eq => refEq g a b
  | .ne => refNe g a b
  | .lt => refLe g a b 1
  | .ge => refLe g b a 0
  | .gt => refLe g b a 1
  | .le => refLe g a b 0
def refF (g : List Iv) (a b : Af) : Cc → Option (List Iv)
  | .eq => refNe g a b
  | .ne => refEq g a b
  | .lt => refLe g b a 0
  | .ge => refLe g a b 1
  | .gt => refLe g a b 0
  | .le => refLe g b a 1
theorem refT_ok {r : Nat → Int32} {g : List Iv} {a b : Af} (h : Sat r g) {c : Cc} (hl : cmpP c (evI r a) (evI r b)) : ∃ g', refT g a b c = some g' ∧ Sat r g' := by
  cases c with
  | eq => exact refEq_ok h hl
  | ne => exact refNe_ok h hl
  | lt => exact refLe_ok h (by have := Int32.lt_iff_toInt_lt.mp hl; omega)
  | ge => exact refLe_ok h (by have := Int32.le_iff_toInt_le.mp hl; omega)
  | gt => exact refLe_ok h (by have := Int32.lt_iff_toInt_lt.mp hl; omega)
  | le => exact refLe_ok h (by have := Int32.le_iff_toInt_le.mp hl; omega)
theorem refF_ok {r : Nat → Int32} {g : List Iv} {a b : Af} (h : Sat r g) {c : Cc} (hl : ¬ cmpP c (evI r a) (evI r b)) : ∃ g', refF g a b c = some g' ∧ Sat r g' := by
  cases c with
  | eq => exact refNe_ok h hl
  | ne => exact refEq_ok h (Decidable.not_not.mp hl)
  | lt => exact refLe_ok h (by have := Int32.le_iff_toInt_le.mp (Int32.not_lt.mp hl); omega)
  | ge => exact refLe_ok h (by have := Int32.lt_iff_toInt_lt.mp (Int32.not_le.mp hl); omega)
  | gt => exact refLe_ok h (by have := Int32.le_iff_toInt_le.mp (Int32.not_lt.mp hl); omega)
  | le => exact refLe_ok h (by have := Int32.lt_iff_toInt_lt.mp (Int32.not_le.mp hl); omega)
/-! sums and products -/
def afAdd (x y : Af) : Option Af := if x.2.1 = 0 then some (y.1, y.2.1, y.2.2 + x.2.2) else if y.2.1 = 0 then some (x.1, x.2.1, x.2.2 + y.2.2) else if x.1 = y.1 then some (x.1, x.2.1 + y.2.1, x.2.2 + y.2.2) else none
def afNeg (x : Af) : Af := (x.1, -x.2.1, -x.2.2)
def afMul (x y : Af) : Option Af := if x.2.1 = 0 then some (y.1, x.2.2 * y.2.1, x.2.2 * y.2.2) else if y.2.1 = 0 then some (x.1, y.2.2 * x.2.1, y.2.2 * x.2.2) else none
theorem afAdd_ok {r : Nat → Int32} {x y z : Af} (h : afAdd x y = some z) : evI r z = evI r x + evI r y := by
  unfold afAdd at h
  unfold evI
  rw [← Int32.ofInt_add]
  congr 1
  split at h
  · rename_i e
    cases h
    simp only
    rw [e, Int.zero_mul]
    omega
  · split at h
    · rename_i e
      cases h
      simp only
      rw [e, Int.zero_mul]
      omega
    · split at h
      · rename_i e
        cases h
        simp only
        rw [Int.add_mul, ← e]
        omega
      · cases h
theorem afNeg_ok {r : Nat → Int32} {x : Af} : evI r (afNeg x) = -evI r x := by
  unfold evI afNeg
  rw [← Int32.ofInt_neg]
  congr 1
  simp only
  rw [Int.neg_mul]
  omega
theorem afMul_ok {r : Nat → Int32} {x y z : Af} (h : afMul x y = some z) : evI r z = evI r x * evI r y := by
  unfold afMul at h
  unfold evI
  rw [← Int32.ofInt_mul]
  congr 1
  split at h
  · rename_i e
    cases h
    simp only
    rw [e, Int.zero_mul, Int.zero_add, Int.mul_add, Int.mul_assoc]
  · split at h
    · rename_i e
      cases h
      simp only
      rw [e, Int.zero_mul, Int.zero_add, Int.mul_comm _ y.2.2, Int.mul_add, Int.mul_assoc]
    · cases h
def cst2 (f : Int32 → Int32 → Int32) (x y : Af) : Option Af := if x.2.1 = 0 ∧ y.2.1 = 0 then some (0, 0, (f (Int32.ofInt x.2.2) (Int32.ofInt y.2.2)).toInt) else none
theorem cst2_ok {r : Nat → Int32} {f : Int32 → Int32 → Int32} {x y z : Af} (h : cst2 f x y = some z) : evI r z = f (evI r x) (evI r y) := by
  unfold cst2 at h
  split at h
  · rename_i e
    cases h
    rw [evI_k]
    unfold evI
    rw [e.1, e.2, Int.zero_mul, Int.zero_mul, Int.zero_add, Int.zero_add]
  · cases h
theorem afSub_ok {r : Nat → Int32} {x y z : Af} (h : afAdd x (afNeg y) = some z) : evI r z = evI r x - evI r y := by
  rw [afAdd_ok h, afNeg_ok, Int32.sub_eq_add_neg]
def ivAdd (i j : Iv) : Iv := if okB (i.1 + j.1, i.2 + j.2) = true then (i.1 + j.1, i.2 + j.2) else ivF
def ivSub (i j : Iv) : Iv := if okB (i.1 - j.2, i.2 - j.1) = true then (i.1 - j.2, i.2 - j.1) else ivF
theorem ivAdd_ok {i j : Iv} {x y : Int32} (hx : inIv i x) (hy : inIv j y) : inIv (ivAdd i j) (x + y) := by
  unfold ivAdd
  split
  · rename_i e
    have e := okB_ok e
    unfold inIv at *
    simp only at e ⊢
    have h : (x + y).toInt = x.toInt + y.toInt := by
      rw [← Int32.ofInt_toInt x, ← Int32.ofInt_toInt y, ← Int32.ofInt_add, Int32.ofInt_toInt, Int32.ofInt_toInt]
      exact toI_of (by omega) (by omega)
    rw [h]
    omega
  · exact inIv_F _
theorem ivSub_ok {i j : Iv} {x y : Int32} (hx : inIv i x) (hy : inIv j y) : inIv (ivSub i j) (x - y) := by
  unfold ivSub
  split
  · rename_i e
    have e := okB_ok e
    unfold inIv at *
    simp only at e ⊢
    have h : (x - y).toInt = x.toInt - y.toInt := by
      rw [← Int32.ofInt_toInt x, ← Int32.ofInt_toInt y, ← Int32.ofInt_sub, Int32.ofInt_toInt, Int32.ofInt_toInt]
      exact toI_of (by omega) (by omega)
    rw [h]
    omega
  · exact inIv_F _
/-! bits -/
theorem toInt_nn {x : Int32} (h : 0 ≤ x.toInt) : x.toInt = (x.toBitVec.toNat : Int) := by
  have h1 : x.toInt = x.toBitVec.toInt := rfl
  rw [h1] at h ⊢
  rw [BitVec.toInt_eq_toNat_cond] at h ⊢
  have := x.toBitVec.isLt
  split at h
  · rename_i e; rw [if_pos e]
  · omega
theorem and_nn {x y : Int32} (h : 0 ≤ y.toInt) : 0 ≤ (x &&& y).toInt ∧ (x &&& y).toInt ≤ y.toInt := by
  have h1 := toInt_nn h
  have h2 := Int32.toInt_lt y
  have h3 : (x &&& y).toBitVec.toNat ≤ y.toBitVec.toNat := by
    show (x.toBitVec &&& y.toBitVec).toNat ≤ _
    rw [BitVec.toNat_and]
    exact Nat.and_le_right
  have h4 : (x &&& y).toInt = ((x &&& y).toBitVec.toNat : Int) := by
    show (x &&& y).toBitVec.toInt = _
    rw [BitVec.toInt_eq_toNat_cond, if_pos (by omega)]
  omega
theorem and_comm32 (x y : Int32) : x &&& y = y &&& x := Int32.toBitVec_inj.mp (BitVec.and_comm _ _)
def ivAnd (i j : Iv) : Iv := if 0 ≤ j.1 then (0, j.2) else if 0 ≤ i.1 then (0, i.2) else ivF
theorem ivAnd_ok {i j : Iv} {x y : Int32} (hx : inIv i x) (hy : inIv j y) : inIv (ivAnd i j) (x &&& y) := by
  unfold inIv at hx hy
  unfold ivAnd
  split
  · have := and_nn (x := x) (y := y) (by omega)
    unfold inIv
    simp only
    omega
  · split
    · have := and_nn (x := y) (y := x) (by omega)
      rw [and_comm32]
      unfold inIv
      simp only
      omega
    · exact inIv_F _
def ivOr (i j : Iv) : Iv := if 0 ≤ i.1 ∧ 0 ≤ j.1 ∧ i.2 ≤ 255 ∧ j.2 ≤ 255 then (0, 255) else ivF
theorem ivOr_ok {i j : Iv} {x y : Int32} (hx : inIv i x) (hy : inIv j y) : inIv (ivOr i j) (x ||| y) := by
  unfold inIv at hx hy
  unfold ivOr
  split
  · have h1 := toInt_nn (x := x) (by omega)
    have h2 := toInt_nn (x := y) (by omega)
    have h3 : (x ||| y).toBitVec.toNat < 256 := by
      show (x.toBitVec ||| y.toBitVec).toNat < 2 ^ 8
      rw [BitVec.toNat_or]
      exact Nat.or_lt_two_pow (by omega) (by omega)
    have h4 : (x ||| y).toInt = ((x ||| y).toBitVec.toNat : Int) := by
      show (x ||| y).toBitVec.toInt = _
      rw [BitVec.toInt_eq_toNat_cond, if_pos (by omega)]
    unfold inIv
    simp only
    omega
  · exact inIv_F _
/-- what divides isn't 0 -/
def nzI (j : Iv) : Bool := decide (1 ≤ j.1) || decide (j.2 ≤ -1)
theorem nzI_ok {j : Iv} {y : Int32} (hy : inIv j y) (h : nzI j = true) : ¬ y = 0 := by
  intro e
  subst e
  unfold inIv at hy
  rw [Int32.toInt_zero] at hy
  simp [nzI] at h
  omega
def ivRem (i j : Iv) : Iv := if 1 ≤ j.1 then (if 0 ≤ i.1 then (0, j.2 - 1) else (1 - j.2, j.2 - 1)) else ivF
theorem ivRem_ok {i j : Iv} {x y : Int32} (hx : inIv i x) (hy : inIv j y) : inIv (ivRem i j) (x - x / y * y) := by
  unfold inIv at hx hy
  unfold ivRem
  split
  · rename_i h1
    have hy1 : y ≠ -1 := by
      intro e
      rw [e, show (-1 : Int32).toInt = -1 from rfl] at hy
      omega
    have e1 : (x / y).toInt = x.toInt.tdiv y.toInt := Int32.toInt_div_of_ne_right x y hy1
    have e2 : x - x / y * y = Int32.ofInt (x.toInt.tmod y.toInt) := by
      rw [Int.tmod_def, Int32.ofInt_sub, Int32.ofInt_mul, Int32.ofInt_toInt, Int32.ofInt_toInt, ← e1, Int32.ofInt_toInt, Int32.mul_comm y]
    have b1 : x.toInt.tmod y.toInt < y.toInt := Int.tmod_lt_of_pos _ (by omega)
    have b2 : -y.toInt < x.toInt.tmod y.toInt := Int.lt_tmod_of_pos _ (by omega)
    have b3 := Int32.toInt_lt y
    have e3 : (x - x / y * y).toInt = x.toInt.tmod y.toInt := by
      rw [e2]
      exact toI_of (by omega) (by omega)
    split
    · have b4 : 0 ≤ x.toInt.tmod y.toInt := Int.tmod_nonneg _ (by omega)
      unfold inIv
      rw [e3]
      simp only
      omega
    · unfold inIv
      rw [e3]
      simp only
      omega
  · exact inIv_F _
def ivDiv (i j : Iv) : Iv := if 1 ≤ j.1 ∧ 0 ≤ i.1 then (0, i.2) else ivF
theorem ivDiv_ok {i j : Iv} {x y : Int32} (hx : inIv i x) (hy : inIv j y) : inIv (ivDiv i j) (x / y) := by
  unfold inIv at hx hy
  unfold ivDiv
  split
  · have hy1 : y ≠ -1 := by
      intro e
      rw [e, show (-1 : Int32).toInt = -1 from rfl] at hy
      omega
    have e1 : (x / y).toInt = x.toInt.tdiv y.toInt := Int32.toInt_div_of_ne_right x y hy1
    have b1 : 0 ≤ x.toInt.tdiv y.toInt := Int.tdiv_nonneg (by omega) (by omega)
    have b2 : x.toInt.tdiv y.toInt ≤ x.toInt := Int.tdiv_le_self _ (by omega)
    unfold inIv
    rw [e1]
    simp only
    omega
  · exact inIv_F _
def ivShl (i j : Iv) : Iv := if i.1 = 1 ∧ i.2 = 1 ∧ 0 ≤ j.1 ∧ j.2 ≤ 7 then (1, 128) else if i.1 = 1 ∧ i.2 = 1 ∧ 0 ≤ j.1 ∧ j.2 ≤ 8 then (1, 256) else ivF
theorem ivShl_ok {i j : Iv} {x y : Int32} (hx : inIv i x) (hy : inIv j y) : inIv (ivShl i j) (x <<< (y &&& 31)) := by
  unfold inIv at hx hy
  have ey : y = Int32.ofInt y.toInt := (Int32.ofInt_toInt y).symm
  unfold ivShl
  split
  · have ex : x = 1 := Int32.toInt_inj.mp (by rw [show (1 : Int32).toInt = 1 from rfl]; omega)
    subst ex
    have : y.toInt = 0 ∨ y.toInt = 1 ∨ y.toInt = 2 ∨ y.toInt = 3 ∨ y.toInt = 4 ∨ y.toInt = 5 ∨ y.toInt = 6 ∨ y.toInt = 7 := by omega
    rcases this with h | h | h | h | h | h | h | h <;> rw [h] at ey <;> subst ey <;> (unfold inIv; decide)
  · split
    · have ex : x = 1 := Int32.toInt_inj.mp (by rw [show (1 : Int32).toInt = 1 from rfl]; omega)
      subst ex
      have : y.toInt = 0 ∨ y.toInt = 1 ∨ y.toInt = 2 ∨ y.toInt = 3 ∨ y.toInt = 4 ∨ y.toInt = 5 ∨ y.toInt = 6 ∨ y.toInt = 7 ∨ y.toInt = 8 := by omega
      rcases this with h | h | h | h | h | h | h | h | h <;> rw [h] at ey <;> subst ey <;> (unfold inIv; decide)
    · exact inIv_F _
def ivMul (i j : Iv) : Iv := if 0 ≤ i.1 ∧ 0 ≤ j.1 ∧ i.2 ≤ 1000 ∧ j.2 ≤ 1000 then (i.1 * j.1, i.2 * j.2) else ivF
theorem ivMul_ok {i j : Iv} {x y : Int32} (hx : inIv i x) (hy : inIv j y) : inIv (ivMul i j) (x * y) := by
  unfold inIv at hx hy
  unfold ivMul
  split
  · have b1 : 0 ≤ x.toInt := by omega
    have b2 : 0 ≤ y.toInt := by omega
    have m1 : i.1 * j.1 ≤ x.toInt * y.toInt := Int.mul_le_mul hx.1 hy.1 (by omega) b1
    have m2 : x.toInt * y.toInt ≤ i.2 * j.2 := Int.mul_le_mul hx.2 hy.2 b2 (by omega)
    have m3 : i.2 * j.2 ≤ 1000 * 1000 := Int.mul_le_mul (by omega) (by omega) (by omega) (by omega)
    have m4 : 0 ≤ x.toInt * y.toInt := Int.mul_nonneg b1 b2
    have e : (x * y).toInt = x.toInt * y.toInt := by
      rw [← Int32.ofInt_toInt x, ← Int32.ofInt_toInt y, ← Int32.ofInt_mul, Int32.ofInt_toInt, Int32.ofInt_toInt]
      exact toI_of (by omega) (by omega)
    unfold inIv
    rw [e]
    exact ⟨m1, m2⟩
  · exact inIv_F _
def ivMin (i j : Iv) : Iv := (min i.1 j.1, min i.2 j.2)
def ivMax (i j : Iv) : Iv := (max i.1 j.1, max i.2 j.2)
def ivAbs (i : Iv) : Iv := if -2147483647 ≤ i.1 then (0, max i.2 (-i.1)) else ivF
theorem ivMin_ok {i j : Iv} {x y : Int32} (hx : inIv i x) (hy : inIv j y) : inIv (ivMin i j) (imin x y) := by
  unfold inIv at *
  unfold imin ivMin
  simp only
  split
  · rename_i h
    have h := Int32.lt_iff_toInt_lt.mp h
    omega
  · rename_i h
    have h := Int32.le_iff_toInt_le.mp (Int32.not_lt.mp h)
    omega
theorem ivMax_ok {i j : Iv} {x y : Int32} (hx : inIv i x) (hy : inIv j y) : inIv (ivMax i j) (imax x y) := by
  unfold inIv at *
  unfold imax ivMax
  simp only
  split
  · rename_i h
    have h := Int32.lt_iff_toInt_lt.mp h
    omega
  · rename_i h
    have h := Int32.le_iff_toInt_le.mp (Int32.not_lt.mp h)
    omega
theorem ivAbs_ok {i : Iv} {x : Int32} (hx : inIv i x) : inIv (ivAbs i) (iabs x) := by
  unfold ivAbs
  split
  · rename_i hi
    unfold inIv at *
    unfold iabs
    simp only
    split
    · rename_i h
      have h := Int32.le_iff_toInt_le.mp h
      rw [Int32.toInt_zero] at h
      omega
    · rename_i h
      have h := Int32.lt_iff_toInt_lt.mp (Int32.not_le.mp h)
      rw [Int32.toInt_zero] at h
      have e : (0 - x).toInt = 0 - x.toInt := by
        have : (0 : Int32) - x = Int32.ofInt (0 - x.toInt) := by rw [Int32.ofInt_sub, Int32.ofInt_toInt]; rfl
        rw [this]
        exact toI_of (by omega) (by have := Int32.le_toInt x; omega)
      rw [e]
      omega
  · exact inIv_F _
theorem i2b_ok (x : Int32) : inIv (-128, 127) x.toInt8.toInt32 := by
  have h1 := Int8.le_toInt x.toInt8
  have h2 := Int8.toInt_lt x.toInt8
  have e : x.toInt8.toInt32.toInt = x.toInt8.toInt := Int8.toInt_toInt32 _
  unfold inIv
  rw [e]
  simp only
  omega
theorem bip_ok {n : Int} (h1 : -128 ≤ n) (h2 : n ≤ 127) : (Int8.ofInt n).toInt32 = Int32.ofInt n := by
  rw [← Int32.ofInt_int8ToInt, Int8.toInt_ofInt_of_le (by omega) (by omega)]
theorem sip_ok {n : Int} (h1 : -32768 ≤ n) (h2 : n ≤ 32767) : (Int16.ofInt n).toInt32 = Int32.ofInt n := by
  rw [← Int32.ofInt_int16ToInt, Int16.toInt_ofInt_of_le (by omega) (by omega)]
/-- shifted by a number: a product -/
def afShl (x y : Af) : Option Af := if y.2.1 = 0 ∧ y.2.2 = 8 then some (x.1, 256 * x.2.1, 256 * x.2.2) else none
theorem afShl_ok {r : Nat → Int32} {x y z : Af} (h : afShl x y = some z) : evI r z = evI r x <<< (evI r y &&& 31) := by
  unfold afShl at h
  split at h
  · rename_i e
    cases h
    have ey : evI r y = 8 := by
      unfold evI
      rw [e.1, e.2, Int.zero_mul, Int.zero_add]
      rfl
    rw [ey]
    have key : ∀ x : Int32, x <<< ((8 : Int32) &&& 31) = Int32.ofInt 256 * x := by
      intro x
      apply Int32.toBitVec_inj.mp
      show x.toBitVec <<< (BitVec.smod (8 &&& 31 : Int32).toBitVec 32).toNat = (256#32 : BitVec 32) * x.toBitVec
      rw [show (BitVec.smod (8 &&& 31 : Int32).toBitVec 32).toNat = 8 from by decide, BitVec.mul_comm, BitVec.shiftLeft_eq_mul_twoPow]
      rfl
    rw [key]
    unfold evI
    rw [← Int32.ofInt_mul]
    congr 1
    simp only
    rw [Int.mul_add, Int.mul_assoc]
  · cases h
