/-! ===== the checker: ways that meet, calls ===== -/
theorem szQ_ok {r : Nat → Int32} {q : Nat × Nat} (h : szQ q = true) : msV r q < 17179869184 := by
  have h := of_decide_eq_true h
  by_cases h2 : q.1 = 0 ∨ q.1 = 1
  · exact Nat.lt_trans (msV_lt h2) (by decide)
  · unfold msV
    rw [if_neg (by omega), if_neg (by omega)]
    omega
theorem lxM_ok {r r0 r' : Nat → Int32} {g : List Iv} {L : List (Option SV)} {m0 m1 : Ms} {n0 : Nat} (hS : Sat r g) (ha : ∀ v, v < n0 → r v = r0 v) (h0 : mOK n0 m0) (hr : ∀ (q : Nat × Nat), (q = m1.1 ∨ q = m1.2.1 ∨ q = m1.2.2) → q.1 ≠ 2 → ∀ a, L[q.2]? = some (some (.inl a)) → r' q.2 = evI r a) (h : lxM g L m0 m1 = true) (hz : szM m1 = true) : mu3 r' m1 < mu3 r0 m0 := by
  obtain ⟨c1, c1'⟩ := cmM_ok (r' := r') (m1 := m1.1) hS ha h0.1 (hr _ (Or.inl rfl))
  obtain ⟨c2, c2'⟩ := cmM_ok (r' := r') (m1 := m1.2.1) hS ha h0.2.1 (hr _ (Or.inr (Or.inl rfl)))
  obtain ⟨c3, c3'⟩ := cmM_ok (r' := r') (m1 := m1.2.2) hS ha h0.2.2 (hr _ (Or.inr (Or.inr rfl)))
  simp only [szM, Bool.and_eq_true] at hz
  have z1 := szQ_ok (r := r') hz.1
  have z2 := szQ_ok (r := r') hz.2.1
  have z3 := szQ_ok (r := r') hz.2.2
  simp only [lxM, Bool.or_eq_true, Bool.and_eq_true, decide_eq_true_eq] at h
  unfold mu3
  rcases h with h | ⟨h, h2 | ⟨h2, h3⟩⟩
  · have := c1 h; omega
  · have e1 := c1' h; have := c2 h2; omega
  · have e1 := c1' h; have e2 := c2' h2; have := c3 h3; omega
theorem arL_ok {g : List Iv} {r r' : Nat → Int32} (hS : Sat r g) : ∀ {L : List (Option SV)} {sp : Sp} {k : Nat}, arL g L sp = true → (∀ (j : Nat) (a : Af), j < sp.length → L[j]? = some (some (.inl a)) → r' (k + j) = evI r a) →
    (∀ (j : Nat) (v : Value), (evL r' (spL k sp))[j]? = some (some v) → (evL r L)[j]? = some (some v)) ∧ (∀ (j : Nat) (iv : Iv), sp[j]? = some (some (.inl iv)) → inIv iv (r' (k + j))) := by
  intro L
  induction L with
  | nil =>
    intro sp k h hr
    cases sp with
    | nil => exact ⟨fun j v hv => by simp [spL, evL] at hv, fun j iv hj => by simp at hj⟩
    | cons s t => exact nomatch h
  | cons l L ih =>
    intro sp k h hr
    cases sp with
    | nil => exact ⟨fun j v hv => by simp [spL, evL] at hv, fun j iv hj => by simp at hj⟩
    | cons s t =>
      have step : ∀ (hh : arL g L t = true), (∀ (j : Nat) (v : Value), (evL r' (spL (k + 1) t))[j]? = some (some v) → (evL r L)[j]? = some (some v)) ∧ (∀ (j : Nat) (iv : Iv), t[j]? = some (some (.inl iv)) → inIv iv (r' (k + 1 + j))) := fun hh =>
        ih hh (fun j a hj hL => by
          have := hr (j + 1) a (by simp; omega) (by simpa using hL)
          rw [show k + 1 + j = k + (j + 1) by omega]
          exact this)
      cases s with
      | none =>
        have hh : arL g L t = true := by
          cases l with
          | none => exact h
          | some l => cases l <;> exact h
        obtain ⟨s1, s2⟩ := step hh
        refine ⟨fun j v hv => ?_, fun j iv hj => ?_⟩
        · cases j with
          | zero => exact nomatch hv
          | succ j => exact s1 j v hv
        · cases j with
          | zero => exact nomatch hj
          | succ j => rw [show k + (j + 1) = k + 1 + j by omega]; exact s2 j iv (by simpa using hj)
      | some s =>
        cases s with
        | inl iv0 =>
          cases l with
          | none => exact nomatch h
          | some l =>
            cases l with
            | inr q => exact nomatch h
            | inl a =>
              simp only [arL, Bool.and_eq_true] at h
              obtain ⟨s1, s2⟩ := step h.2
              have h0 := hr 0 a (by simp) rfl
              rw [Nat.add_zero] at h0
              refine ⟨fun j v hv => ?_, fun j iv hj => ?_⟩
              · cases j with
                | zero =>
                  have hv : some (some (Value.int (evI r' (k, 1, 0)))) = some (some v) := hv
                  rw [evI_v, h0] at hv
                  exact hv
                | succ j => exact s1 j v hv
              · cases j with
                | zero =>
                  have hj : some (some (Sum.inl iv0)) = some (some (Sum.inl iv)) := hj
                  cases hj
                  rw [Nat.add_zero, h0]
                  exact subI_ok h.1 (ivA_ok hS a)
                | succ j => rw [show k + (j + 1) = k + 1 + j by omega]; exact s2 j iv (by simpa using hj)
        | inr q' =>
          cases l with
          | none => exact nomatch h
          | some l =>
            cases l with
            | inl a => exact nomatch h
            | inr q =>
              simp only [arL, Bool.and_eq_true, decide_eq_true_eq] at h
              obtain ⟨s1, s2⟩ := step h.2
              obtain ⟨rfl, _⟩ := h
              refine ⟨fun j v hv => ?_, fun j iv hj => ?_⟩
              · cases j with
                | zero =>
                  cases q with
                  | none =>
                    have hv : some (some Value.null) = some (some v) := hv
                    show some (some Value.null) = some (some v)
                    exact hv
                  | some q =>
                    have hv : some (some (Value.ref q)) = some (some v) := hv
                    show some (some (Value.ref q)) = some (some v)
                    exact hv
                | succ j => exact s1 j v hv
              · cases j with
                | zero => exact nomatch hj
                | succ j => rw [show k + (j + 1) = k + 1 + j by omega]; exact s2 j iv (by simpa using hj)
theorem spL_len : ∀ (sp : Sp) (k : Nat), (spL k sp).length = sp.length := by
  intro sp
  induction sp with
  | nil => intro k; rfl
  | cons s t ih =>
    intro k
    cases s with
    | none => show _ + 1 = _ + 1; rw [ih]
    | some s => cases s <;> (show _ + 1 = _ + 1; rw [ih])
theorem arL_len {g : List Iv} : ∀ {L : List (Option SV)} {sp : Sp}, arL g L sp = true → sp.length ≤ L.length := by
  intro L
  induction L with
  | nil =>
    intro sp h
    cases sp with
    | nil => exact Nat.le_refl _
    | cons s t => exact nomatch h
  | cons l L ih =>
    intro sp h
    cases sp with
    | nil => exact Nat.zero_le _
    | cons s t =>
      have : arL g L t = true := by
        cases s with
        | none => cases l with
          | none => exact h
          | some l => cases l <;> exact h
        | some s =>
          cases s with
          | inl iv => cases l with
            | none => exact nomatch h
            | some l => cases l with
              | inl a => simp only [arL, Bool.and_eq_true] at h; exact h.2
              | inr q => exact nomatch h
          | inr q' => cases l with
            | none => exact nomatch h
            | some l => cases l with
              | inl a => exact nomatch h
              | inr q => simp only [arL, Bool.and_eq_true] at h; exact h.2
      have := ih this
      simp
      exact this
/-- what a place where ways meet owes -/
def cutH9 (G : Gx) (Y : Ym) (Q : Rs → Hi → Prop) (d : Nat) (HP : Hi → Prop) (M : Nat) (c : Cu) : Prop :=
  ∀ (r : Nat → Int32) (I : Hi), Sat r (spG c.2.1 c.2.2.1) → HP I → KbOK r (faK c.2.1.length c.2.2.1) I → mu3 r c.2.2.2.1 < M → Rn G GAM Y (kM G GAM Q) d c.2.2.2.2 c.1 (evL r (spL 0 c.2.1)) [] I
section Arr
variable {G : Gx} {Y : Ym} {Q : Rs → Hi → Prop} {d bud n0 pc : Nat} {r0 : Nat → Int32} {hx : Hx} {X : Hi → Prop} {I0 : Hi} {m0 : Ms} {c : Cu} {s : Ast}
theorem arr_ok (hm : mOK n0 m0) (h : arr hx bud m0 c s = true) (k : cutH9 G Y Q d (HPof hx X I0) (mu3 r0 m0) c) : Gd G Y Q d bud n0 r0 (HPof hx X I0) c.1 s := by
  obtain ⟨g, L, st, kb⟩ := s
  obtain ⟨pc, sp, fa, ms, cb⟩ := c
  intro r I ha hS hP hK
  simp only [arr, Bool.and_eq_true] at h
  obtain ⟨h1, h2, h3, h4, h5, h6, h7⟩ := h
  have h7 := of_decide_eq_true h7
  have hst : st = [] := List.isEmpty_iff.mp h2
  subst hst
  have hS : Sat r g := hS
  have hK : KbOK r kb I := hK
  have hloc : ∀ (j : Nat) (a : Af), j < sp.length → L[j]? = some (some (.inl a)) → cuR r L sp.length fa I (0 + j) = evI r a := by
    intro j a hj hL
    rw [Nat.zero_add]
    unfold cuR
    rw [if_pos hj, hL]
  obtain ⟨q1, q2⟩ := arL_ok hS h3 hloc
  have hfa : ∀ (j : Nat) (f : (Nat × Nat) × Iv), fa[j]? = some f → cuR r L sp.length fa I (sp.length + j) = I f.1.1 f.1.2 := by
    intro j f hf
    unfold cuR
    rw [if_neg (by omega), show sp.length + j - sp.length = j by omega, hf]
  have hfm := arF_ok hS hP.1 hK h4
  refine Rn.weakB (Nat.le_of_ble_eq_true h1) (Rn.weakL q1 (k (cuR r L sp.length fa I) I ?_ hP (fa_new (xs := []) hfa) ?_))
  · intro v i hv
    by_cases hlt : v < sp.length
    · have hv : (sp.map (fun o => match o with | some (.inl iv) => iv | _ => ivF) ++ fa.map (fun e => e.2))[v]? = some i := hv
      rw [List.getElem?_append_left (by rw [List.length_map]; exact hlt), List.getElem?_map, List.getElem?_eq_getElem hlt] at hv
      simp only [Option.map_some, Option.some.injEq] at hv
      have hq := q2 v
      rw [List.getElem?_eq_getElem hlt, Nat.zero_add] at hq
      split at hv
      · rename_i iv e
        subst hv
        exact hq iv (by rw [e])
      · subst hv
        exact inIv_F _
    · have hv : (sp.map (fun o => match o with | some (.inl iv) => iv | _ => ivF) ++ fa.map (fun e => e.2))[v]? = some i := hv
      rw [List.getElem?_append_right (by rw [List.length_map]; omega), List.length_map, List.getElem?_map] at hv
      cases e : fa[v - sp.length]? with
      | none => rw [e] at hv; exact nomatch hv
      | some f =>
        rw [e] at hv
        cases hv
        have := hfa _ f e
        rw [show sp.length + (v - sp.length) = v by omega] at this
        rw [this]
        exact hfm f (List.mem_of_getElem? e)
  · refine lxM_ok (r' := cuR r L sp.length fa I) hS ha hm (fun q hq h2 a hL => ?_) h5 h6
    have hlt : q.2 < sp.length := by
      rcases hq with rfl | rfl | rfl
      · exact h7.1 h2
      · exact h7.2.1 h2
      · exact h7.2.2 h2
    have := hloc q.2 a hlt hL
    rw [Nat.zero_add] at this
    exact this
end Arr
