/-! ===== the checker: a method, sound ===== -/
def argM : List Value → List (Iv ⊕ Option Nat) → Prop
  | [], [] => True
  | .int x :: t, .inl iv :: u => inIv iv x ∧ argM t u
  | .ref a :: t, .inr (some q) :: u => a = q ∧ argM t u
  | .null :: t, .inr none :: u => argM t u
  | _, _ => False
def faM (I : Hi) (fa : Fa) : Prop := ∀ e ∈ fa, inIv e.2 (I e.1.1 e.1.2)
def resM : Rs → (Option Iv ⊕ Nat) → Prop
  | .inl none, .inl none => True
  | .inl (some (.int x)), .inl (some iv) => inIv iv x
  | .inr E, .inr n => E = zCs.getD n ""
  | _, _ => False
def CtOK (G : Gx) (hx : Hx) (X : Hi → Prop) (mt : Mt) (c : Ctr) : Prop := ∀ (k : Nat) (I : Hi) (vs : List Value), (∀ c j, inIv (hx.1 c j) (I c j)) → X I → argM vs c.2.2.2.1 → faM I c.2.2.2.2.1 →
  Ct G GAM (mt c.1).1 (c.2.1 + k) c.2.2.1 vs I (fun o J => (∀ c j, inIv (hx.1 c j) (J c j)) ∧ X J ∧ Fs c.2.2.2.2.2.1 I J ∧ ∃ p ∈ c.2.2.2.2.2.2, resM o p.1 ∧ faM J p.2)
def okMc (mt : Mt) (mc : Nat → Co) : Prop := ∀ mi, mc mi ≠ [] → plainFor (mt mi).1.1 = true ∧ retO (mt mi).2.2.1 (mt mi).1.2.2.2 ∧ ∀ e ∈ mc mi, okI mt (mt mi).1 e.1 e.2.1 e.2.2
def mOK (n0 : Nat) (m : Ms) : Prop := (m.1.1 ≠ 2 → m.1.2 < n0) ∧ (m.2.1.1 ≠ 2 → m.2.1.2 < n0) ∧ (m.2.2.1 ≠ 2 → m.2.2.2 < n0)
theorem argO_ok {r : Nat → Int32} {g : List Iv} (hS : Sat r g) : ∀ {vs : List SV} {as : List (Iv ⊕ Option Nat)}, argO g vs as = true → argM (evS r vs) as := by
  intro vs
  induction vs with
  | nil =>
    intro as h
    cases as with
    | nil => trivial
    | cons a t => exact nomatch h
  | cons v t ih =>
    intro as h
    cases as with
    | nil => cases v <;> exact nomatch h
    | cons a u =>
      cases v with
      | inl v =>
        cases a with
        | inl iv =>
          simp only [argO, Bool.and_eq_true] at h
          exact ⟨subI_ok h.1 (ivA_ok hS v), ih h.2⟩
        | inr q => exact nomatch h
      | inr v =>
        cases a with
        | inl iv => exact nomatch h
        | inr q =>
          simp only [argO, Bool.and_eq_true, decide_eq_true_eq] at h
          obtain ⟨rfl, h⟩ := h
          cases v with
          | none => exact ih h
          | some a => exact ⟨rfl, ih h⟩
theorem arF_ok {hx : Hx} {r : Nat → Int32} {g : List Iv} {kb : Kb} {fa : Fa} {I : Hi} (hS : Sat r g) (hB : ∀ c j, inIv (hx.1 c j) (I c j)) (hK : KbOK r kb I) (h : arF hx g kb fa = true) : faM I fa := by
  intro e he
  have h1 := List.all_eq_true.mp h e he
  split at h1
  · rename_i a ha
    rw [kbG_ok ha hK]
    exact subI_ok h1 (ivA_ok hS a)
  · exact subI_ok h1 (hB _ _)
theorem subS_ok {S T : List (Nat × Nat × Nat)} {I J : Hi} (h : subS S T = true) (hf : Fs S I J) : Fs T I J := by
  intro c j hj5 hc
  apply hf c j hj5
  refine List.any_eq_false.mpr (fun q hq h2 => ?_)
  obtain ⟨t, ht, h3⟩ := List.any_eq_true.mp (List.all_eq_true.mp h q hq)
  simp only [Bool.and_eq_true, decide_eq_true_eq, Nat.ble_eq] at h2 h3
  have := List.any_eq_false.mp hc t ht
  simp only [Bool.and_eq_true, decide_eq_true_eq, Nat.ble_eq] at this
  exact this ⟨h3.1.trans h2.1, by omega, by omega⟩
theorem Fs.tr {S : List (Nat × Nat × Nat)} {I J K : Hi} (h : Fs S I J) (h2 : Fs S J K) : Fs S I K := fun c j hj hc => (h2 c j hj hc).trans (h c j hj hc)
theorem Fs.rf {S : List (Nat × Nat × Nat)} {I : Hi} : Fs S I I := fun _ _ _ _ => rfl
theorem killS_ok {S : List (Nat × Nat × Nat)} {r : Nat → Int32} {kb : Kb} {I J : Hi} (hf : Fs S I J) (hK : KbOK r kb I) : KbOK r (killS S kb) J := by
  intro e he
  obtain ⟨h1, h2⟩ := List.mem_filter.mp he
  simp only [Bool.and_eq_true, Nat.blt_eq, Bool.not_eq_true'] at h2
  rw [hf _ _ h2.1 h2.2]
  exact hK e h1
theorem faK_mem : ∀ {fa : Fa} {k : Nat} {e : (Nat × Nat) × Af}, e ∈ faK k fa → ∃ (j : Nat) (f : (Nat × Nat) × Iv), fa[j]? = some f ∧ e = (f.1, (k + j, 1, 0)) := by
  intro fa
  induction fa with
  | nil => intro k e h; exact nomatch h
  | cons f t ih =>
    intro k e h
    rcases List.mem_cons.mp h with h | h
    · exact ⟨0, f, rfl, h⟩
    · obtain ⟨j, f', h1, h2⟩ := ih h
      exact ⟨j + 1, f', by simpa using h1, by rw [h2]; simp; omega⟩
/-- facts as new variables -/
theorem fa_new {r : Nat → Int32} {I : Hi} {fa : Fa} {n : Nat} {xs : List Int32} (hx : ∀ (j : Nat) (f : (Nat × Nat) × Iv), fa[j]? = some f → r (n + j) = I f.1.1 f.1.2) : KbOK r (faK n fa) I := by
  intro e he
  obtain ⟨j, f, h1, rfl⟩ := faK_mem he
  show I f.1.1 f.1.2 = evI r (n + j, 1, 0)
  rw [evI_v, hx j f h1]
theorem seek_ok {pc : Nat} : ∀ {co : Co} {e : Nat × In × List (Nat × Nat)} {t : Co}, seek pc co = e :: t → e.1 = pc ∧ ∀ x ∈ e :: t, x ∈ co := by
  intro co
  induction co with
  | nil => intro e t h; exact nomatch h
  | cons c co ih =>
    intro e t h
    unfold seek at h
    split at h
    · rename_i e1
      cases h
      exact ⟨e1, fun x hx => hx⟩
    · obtain ⟨h1, h2⟩ := ih h
      exact ⟨h1, fun x hx => List.mem_cons_of_mem _ (h2 x hx)⟩
theorem entO_ok {cs co : Co} {pc : Nat} {e : Nat × In × List (Nat × Nat)} {t : Co} (hc : ∀ x ∈ cs, x ∈ co) (h : entO cs co pc = e :: t) : e.1 = pc ∧ ∀ x ∈ e :: t, x ∈ co := by
  unfold entO at h
  split at h
  · split at h
    · rename_i e1
      cases h
      exact ⟨e1, hc⟩
    · exact seek_ok h
  · exact seek_ok h
theorem allO_ok {α : Type} {f : α → Option (List Ed)} : ∀ {l : List α} {es : List Ed}, allO f l = some es → ∀ a ∈ l, ∃ x, f a = some x ∧ ∀ e ∈ x, e ∈ es := by
  intro l
  induction l with
  | nil => intro es _ a ha; exact nomatch ha
  | cons b t ih =>
    intro es h a ha
    unfold allO at h
    split at h
    · rename_i x y e1 e2
      cases h
      rcases List.mem_cons.mp ha with ha | ha
      · subst ha
        exact ⟨x, e1, fun e he => List.mem_append_left _ he⟩
      · obtain ⟨z, h1, h2⟩ := ih e2 a ha
        exact ⟨z, h1, fun e he => List.mem_append_right _ (h2 e he)⟩
    · cases h
/-! ways that meet -/
theorem msV_ag {r r0 : Nat → Int32} {n0 : Nat} {q : Nat × Nat} (ha : ∀ v, v < n0 → r v = r0 v) (h : q.1 ≠ 2 → q.2 < n0) : msV r q = msV r0 q ∨ (q.1 ≠ 0 ∧ q.1 ≠ 1) := by
  by_cases h2 : q.1 = 0 ∨ q.1 = 1
  · left
    have := ha q.2 (h (by omega))
    unfold msV
    rw [this]
  · right; omega
theorem msV_ag2 {r r0 : Nat → Int32} {n0 : Nat} {q : Nat × Nat} (ha : ∀ v, v < n0 → r v = r0 v) (h : q.1 ≠ 2 → q.2 < n0) : msV r q = msV r0 q := by
  rcases msV_ag ha h with e | e
  · exact e
  · unfold msV
    rw [if_neg e.1, if_neg e.1, if_neg e.2, if_neg e.2]
theorem msV_lt {r : Nat → Int32} {q : Nat × Nat} (h : q.1 = 0 ∨ q.1 = 1) : msV r q < 4294967296 := by
  have h1 := Int32.le_toInt (r q.2)
  have h2 := Int32.toInt_lt (r q.2)
  unfold msV
  split
  · omega
  · split
    · omega
    · omega
/-- the valuation of a place at which ways meet -/
def cuR (r : Nat → Int32) (L : List (Option SV)) (n : Nat) (fa : Fa) (I : Hi) : Nat → Int32 := fun v =>
  if v < n then (match L[v]? with
    | some (some (.inl a)) => evI r a
    | _ => 0)
  else match fa[v - n]? with
    | some f => I f.1.1 f.1.2
    | none => 0
theorem cmM_ok {r r0 r' : Nat → Int32} {g : List Iv} {L : List (Option SV)} {m0 m1 : Nat × Nat} {n0 : Nat} (hS : Sat r g) (ha : ∀ v, v < n0 → r v = r0 v) (h0 : m0.1 ≠ 2 → m0.2 < n0) (hr : m1.1 ≠ 2 → ∀ a, L[m1.2]? = some (some (.inl a)) → r' m1.2 = evI r a) : (cmM g L m0 m1 = 2 → msV r' m1 < msV r0 m0) ∧ (cmM g L m0 m1 = 1 → msV r' m1 = msV r0 m0) := by
  unfold cmM
  split
  · rename_i e1
    split
    · rename_i e0
      have v0 : msV r0 m0 = m0.2 := by unfold msV; rw [if_neg (by omega), if_neg (by omega)]
      have v1 : msV r' m1 = m1.2 := by unfold msV; rw [if_neg (by omega), if_neg (by omega)]
      rw [v0, v1]
      split
      · exact ⟨fun _ => by assumption, (fun h => nomatch h)⟩
      · split
        · exact ⟨(fun h => nomatch h), fun _ => by assumption⟩
        · exact ⟨(fun h => nomatch h), (fun h => nomatch h)⟩
    · exact ⟨(fun h => nomatch h), (fun h => nomatch h)⟩
  · rename_i e1
    split
    · rename_i a hL
      have hv := hr e1 a hL
      have hiA := ivA_ok hS a
      unfold inIv at hiA
      split
      · rename_i e0
        have v0 : msV r0 m0 = m0.2 := by unfold msV; rw [if_neg (by omega), if_neg (by omega)]
        split
        · rename_i h4
          refine ⟨fun _ => ?_, (fun h => nomatch h)⟩
          rw [v0]
          exact Nat.lt_of_lt_of_le (msV_lt h4.1) h4.2
        · exact ⟨(fun h => nomatch h), (fun h => nomatch h)⟩
      · rename_i e0
        have hlt := h0 e0
        have hv0 := ha _ hlt
        have hi0 := ivV_ok hS m0.2
        rw [hv0] at hi0
        unfold inIv at hi0
        have b1 := Int32.le_toInt (evI r a)
        have b2 := Int32.toInt_lt (evI r a)
        split
        · rename_i e2
          have v0 : msV r0 m0 = (2147483647 - (r0 m0.2).toInt).toNat := by unfold msV; rw [if_pos e2.1]
          have v1 : msV r' m1 = (2147483647 - (evI r a).toInt).toNat := by unfold msV; rw [if_pos e2.2, hv]
          rw [v0, v1]
          split
          · rename_i e3
            refine ⟨(fun h => nomatch h), fun _ => ?_⟩
            rw [e3, evI_v, hv0]
          · split
            · rename_i e4
              refine ⟨fun _ => ?_, (fun h => nomatch h)⟩
              rcases e4 with ⟨f1, f2, f3, f4⟩ | e4
              · have := evI_raw hS f4
                rw [f2, f1, Int.one_mul, hv0] at this
                omega
              · omega
            · exact ⟨(fun h => nomatch h), (fun h => nomatch h)⟩
        · split
          · rename_i e2
            have v0 : msV r0 m0 = ((r0 m0.2).toInt + 2147483648).toNat := by unfold msV; rw [if_neg (by omega), if_pos e2.1]
            have v1 : msV r' m1 = ((evI r a).toInt + 2147483648).toNat := by unfold msV; rw [if_neg (by omega), if_pos e2.2, hv]
            rw [v0, v1]
            split
            · rename_i e3
              refine ⟨(fun h => nomatch h), fun _ => ?_⟩
              rw [e3, evI_v, hv0]
            · split
              · rename_i e4
                refine ⟨fun _ => ?_, (fun h => nomatch h)⟩
                rcases e4 with ⟨f1, f2, f3, f4⟩ | e4
                · have := evI_raw hS f4
                  rw [f2, f1, Int.one_mul, hv0] at this
                  omega
                · omega
              · exact ⟨(fun h => nomatch h), (fun h => nomatch h)⟩
          · exact ⟨(fun h => nomatch h), (fun h => nomatch h)⟩
    · exact ⟨(fun h => nomatch h), (fun h => nomatch h)⟩
