/-! the law's text as things: the grammar, by the class's things; .inl: the first wrong byte, .inr: where it goes on -/
section Grm
variable (c : Nat → Nat) (e : Nat)
def nx (q : Nat) : Nat := bl c e (bh c e q)
abbrev isPart (w : Int32) : Prop := w = 8243 ∨ w = 23716 ∨ w = 638548 ∨ w = 758834 ∨ w = 8892563 ∨ w = 21243335 ∨ w = 24622126
abbrev isTag (w : Int32) : Prop := w = 16110 ∨ w = 78501 ∨ w = 24416759
abbrev Go : Type := Nat ⊕ Nat
def gB (r : Go) (f : Nat → Go) : Go := match r with
  | .inl x => .inl x
  | .inr q => f q
def gPart (q : Nat) : Go := if isPart (wv c e q) ∨ tn c e q ≠ -1 then .inr (nx c e q) else .inl q
def gSumL : Nat → Nat → Go
  | 0, q => .inl q
  | f + 1, q => gB (gPart c e q) (fun q1 => if fs c e q1 = nI 43 then gSumL f (nx c e q1) else .inr q1)
def gSum (q : Nat) : Go := gSumL c e 400 q
def gLoop (w : Int32) (g : Nat → Go) : Nat → Nat → Go
  | 0, q => .inr q
  | f + 1, q => if wv c e q = w then gB (g (nx c e q)) (gLoop w g f) else .inr q
def gAll (a : Nat → Go) (q : Nat) : Go := gB (a q) (gLoop c e 1476 a 400)
def gAny (a : Nat → Go) (q : Nat) : Go := gB (gAll c e a q) (gLoop c e 498 (gAll c e a) 400)
def gRel (q : Nat) : Go := gB (gSum c e q) (fun q1 => if fs c e q1 = nI 60 ∨ fs c e q1 = nI 62 then gSum c e (nx c e q1) else .inl q1)
def gEnd (q : Nat) : Go := if isTag (wv c e q) then .inr (nx c e q) else gRel c e q
def gAtom : Nat → Nat → Go
  | 0, q => gEnd c e q
  | k + 1, q => if wv c e q = 14836 then gAtom k (nx c e q) else if fs c e q = nI 40 then gB (gAny c e (gAtom k) (nx c e q)) (fun q1 => if fs c e q1 = nI 41 then .inr (nx c e q1) else .inl q1) else gEnd c e q
def gNum (m : Int32) (q : Nat) : Go := if tn c e q = -1 ∨ m < tn c e q then .inl q else .inr (nx c e q)
def gHead (q : Nat) : Go := if wv c e q = 20587627 then .inr (nx c e q) else if wv c e q = 209399 ∨ wv c e q = 758834 then gNum c e (nI 60) (nx c e q) else .inl q
def gLine (q : Nat) : Go := gB (gHead c e q) (fun q1 => if wv c e q1 = 294 then gAny c e (gAtom c e 6) (nx c e q1) else .inr q1)
/-- .inr: how many lines -/
def gText (g : Nat → Go) : Nat → Nat → Nat → Go
  | 0, _, q => .inl q
  | f + 1, n, q => gB (g q) (fun q1 => if e ≤ q1 then .inr (n + 1) else if fs c e q1 = nI 59 then gText g f (n + 1) (nx c e q1) else .inl q1)
def gLaw : Go := if e ≤ bl c e 0 then .inr 0 else gText c e (gLine c e) 12 0 (bl c e 0)
end Grm
section Grn
variable {c : Nat → Nat} {e q : Nat}
theorem lx_end (h : e ≤ q) : lx c e q = q := rn_out (fun z => absurd z (by omega))
theorem dx_end (h : e ≤ q) : dx c e q = q := rn_out (fun z => absurd z (by omega))
theorem wv_lt (h : wv c e q ≠ 0) : q < e := by
  false_or_by_contra
  refine h ?_
  rw [wv, lx_end (by omega), Nat.sub_self]
  rfl
theorem tn_lt (h : tn c e q ≠ -1) : q < e := by
  false_or_by_contra
  refine h ?_
  rw [tn, if_pos (lx_end (by omega)), dx_end (by omega), Nat.sub_self]
  rfl
theorem fs_lt {s : Nat} (hs : s < 1000) (h : fs c e q = nI s) : q < e := by
  false_or_by_contra
  rename_i z
  rw [fs, if_neg z] at h
  exact absurd h (neg1_ne (by omega))
theorem fs_c {s : Nat} (hs : s < 1000) (hc : q < e → c q < 256) (h : fs c e q = nI s) : c q = s := by
  have h1 := fs_lt hs h
  rw [fs, if_pos h1] at h
  exact nI_inj (by have := hc h1; omega) (by omega) h
theorem fs_ne {s : Nat} (hs : s < 1000) (hc : q < e → c q < 256) (h : ¬ (q < e ∧ c q = s)) : fs c e q ≠ nI s := fun z => h ⟨fs_lt hs z, fs_c hs hc z⟩
theorem bh_le (h : q < e) : bh c e q ≤ e := by
  unfold bh
  split
  · exact rn_le (by omega)
  · split
    · exact rn_le (by omega)
    · omega
theorem bh_gt : q < bh c e q := by
  unfold bh
  split
  · assumption
  · split
    · assumption
    · omega
theorem nx_le (h : q < e) : nx c e q ≤ e := rn_le (bh_le h)
theorem nx_gt : q < nx c e q := Nat.lt_of_lt_of_le bh_gt rn_ge
theorem bl_nx : bl c e (nx c e q) = nx c e q := rn_rn
theorem bl_bl : bl c e (bl c e q) = bl c e q := rn_rn
theorem bl_ge : q ≤ bl c e q := rn_ge
theorem bl_le (h : q ≤ e) : bl c e q ≤ e := rn_le h
/-- behind a sign -/
theorem nx_s (h1 : ¬ (97 ≤ c q ∧ c q ≤ 122)) (h2 : ¬ (48 ≤ c q ∧ c q ≤ 57)) : nx c e q = bl c e (q + 1) := by
  have e1 : lx c e q = q := rn_out (fun _ => h1)
  have e2 : dx c e q = q := rn_out (fun _ => h2)
  unfold nx bh
  rw [e1, e2, if_neg (by omega), if_neg (by omega)]
/-- behind a word -/
theorem nx_w (h : q < lx c e q) : nx c e q = bl c e (lx c e q) := by
  unfold nx bh
  rw [if_pos h]
/-- behind a number -/
theorem nx_d (h1 : lx c e q = q) (h : q < dx c e q) : nx c e q = bl c e (dx c e q) := by
  unfold nx bh
  rw [h1, if_neg (by omega), if_pos h]
theorem wv_s (h1 : ¬ (97 ≤ c q ∧ c q ≤ 122)) : wv c e q = 0 := by
  have e1 : lx c e q = q := rn_out (fun _ => h1)
  rw [wv, e1, Nat.sub_self]
  rfl
theorem tn_s (h1 : ¬ (48 ≤ c q ∧ c q ≤ 57)) : tn c e q = -1 := by
  have e1 : dx c e q = q := rn_out (fun _ => h1)
  unfold tn
  split
  · rw [e1, Nat.sub_self]; rfl
  · rfl
theorem wv_l {w : Int32} (h : wv c e q = w) (hw : w ≠ 0) : 97 ≤ c q ∧ c q ≤ 122 := by
  false_or_by_contra
  rename_i z
  exact hw (h.symm.trans (wv_s z))
theorem lx_gt {w : Int32} (h : wv c e q = w) (hw : w ≠ 0) : q < lx c e q := by
  have h1 : q ≤ lx c e q := rn_ge
  false_or_by_contra
  have e1 : lx c e q = q := by omega
  refine hw (h.symm.trans ?_)
  rw [wv, e1, Nat.sub_self]
  rfl
/-- a number of the text -/
theorem tn_d (h : tn c e q ≠ -1) : lx c e q = q ∧ q < dx c e q ∧ dx c e q ≤ q + 3 ∧ tn c e q = nI (nv c q (dx c e q - q)) := by
  unfold tn at h ⊢
  split at h
  · rename_i z
    rw [if_pos z]
    unfold tnK at h ⊢
    split at h
    · rename_i y
      rw [if_pos y]
      exact ⟨z, by omega, by omega, rfl⟩
    · exact absurd rfl h
  · exact absurd rfl h
end Grn
/-- all but the draft of the law is as it was, and its number of lines -/
def KP (I K : Hi) : Prop := K 23 0 = I 23 0 ∧ ∀ a, ¬ (23 ≤ a ∧ a ≤ 29) → K a = I a
theorem KP.refl (I : Hi) : KP I I := ⟨rfl, fun _ _ => rfl⟩
theorem KP.tr {I J K : Hi} (h : KP I J) (h2 : KP J K) : KP I K := ⟨h2.1.trans h.1, fun a ha => (h2.2 a ha).trans (h.2 a ha)⟩
