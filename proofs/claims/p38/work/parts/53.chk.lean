/-! ===== the checker: contracts ===== -/
def resO (g : List Iv) : (Option Af ⊕ Nat) → (Option Iv ⊕ Nat) → Bool
  | .inl none, .inl none => true
  | .inl (some a), .inl (some iv) => subI (ivA g a) iv
  | .inr n, .inr m => decide (n = m)
  | _, _ => false
def endO (hx : Hx) (ps : List ((Option Iv ⊕ Nat) × Fa)) (e : Ed) : Bool := ps.any (fun p => resO e.1 e.2.1 p.1 && arF hx e.1 e.2.2 p.2)
def allE (hx : Hx) (ps : List ((Option Iv ⊕ Nat) × Fa)) : Option (List Ed) → Bool
  | some es => es.all (endO hx ps)
  | none => false
def spA (mxl : Nat) (as : List (Iv ⊕ Option Nat)) : Sp := as.map some ++ List.replicate (mxl - as.length) none
noncomputable def chk (hx : Hx) (mt : Mt) (mc : Nat → Co) (cts : List Ctr) (n : Nat) (c : Ctr) (cuts : List Cu) : Bool :=
  (!(mc c.1).isEmpty && (Nat.ble c.2.2.2.1.length (mt c.1).1.2.2.1 &&
    allE hx c.2.2.2.2.2.2 (run hx mt mc cts n c.2.1 c.1 c.2.2.1 (spG (spA (mt c.1).1.2.2.1 c.2.2.2.1) c.2.2.2.2.1).length cuts ((2, 8589934592), (2, 0), (2, 0)) 0 (mc c.1) (spG (spA (mt c.1).1.2.2.1 c.2.2.2.1) c.2.2.2.2.1, spL 0 (spA (mt c.1).1.2.2.1 c.2.2.2.1), [], faK (mt c.1).1.2.2.1 c.2.2.2.2.1)))) &&
  cuts.all (fun u => mxO u.2.1.length u.2.2.2.1 &&
    allE hx c.2.2.2.2.2.2 (run hx mt mc cts n c.2.1 c.1 u.2.2.2.2 (spG u.2.1 u.2.2.1).length cuts u.2.2.2.1 u.1 (mc c.1) (spG u.2.1 u.2.2.1, spL 0 u.2.1, [], faK u.2.1.length u.2.2.1)))
def arR (vs : List Value) (n : Nat) (fa : Fa) (I : Hi) : Nat → Int32 := fun v =>
  if v < n then (match vs[v]? with
    | some (.int x) => x
    | _ => 0)
  else match fa[v - n]? with
    | some f => I f.1.1 f.1.2
    | none => 0
theorem spL_no (r : Nat → Int32) : ∀ (m k : Nat), evL r (spL k (List.replicate m none)) = List.replicate m none := by
  intro m
  induction m with
  | zero => intro k; rfl
  | succ m ih =>
    intro k
    rw [List.replicate_succ]
    show none :: evL r (spL (k + 1) (List.replicate m none)) = none :: List.replicate m none
    rw [ih]
theorem argM_len : ∀ {vs : List Value} {as : List (Iv ⊕ Option Nat)}, argM vs as → vs.length = as.length := by
  intro vs
  induction vs with
  | nil =>
    intro as h
    cases as with
    | nil => rfl
    | cons a t => exact h.elim
  | cons v t ih =>
    intro as h
    cases as with
    | nil => cases v <;> exact h.elim
    | cons a u =>
      have : argM t u := by
        cases v with
        | int x => cases a with
          | inl iv => exact h.2
          | inr q => exact h.elim
        | ref p => cases a with
          | inl iv => exact h.elim
          | inr q => cases q with
            | none => exact h.elim
            | some q => exact h.2
        | null => cases a with
          | inl iv => exact h.elim
          | inr q => cases q with
            | none => exact h
            | some q => exact h.elim
        | _ => exact h.elim
      simp [ih this]
theorem spL_args {r : Nat → Int32} (m : Nat) : ∀ {vs : List Value} {as : List (Iv ⊕ Option Nat)} {k : Nat}, argM vs as → (∀ (j : Nat) (x : Int32), vs[j]? = some (.int x) → r (k + j) = x) → evL r (spL k (as.map some ++ List.replicate m none)) = vs.map some ++ List.replicate m none := by
  intro vs
  induction vs with
  | nil =>
    intro as k h hr
    cases as with
    | nil => exact spL_no r m k
    | cons a t => exact h.elim
  | cons v t ih =>
    intro as k h hr
    cases as with
    | nil => cases v <;> exact h.elim
    | cons a u =>
      have step : argM t u → evL r (spL (k + 1) (u.map some ++ List.replicate m none)) = t.map some ++ List.replicate m none := fun hh =>
        ih hh (fun j x hx => by
          have := hr (j + 1) x (by simpa using hx)
          rw [show k + 1 + j = k + (j + 1) by omega]
          exact this)
      cases v with
      | int x => cases a with
        | inl iv =>
          show some (Value.int (evI r (k, 1, 0))) :: evL r (spL (k + 1) (u.map some ++ List.replicate m none)) = some (Value.int x) :: (t.map some ++ List.replicate m none)
          rw [step h.2, evI_v]
          have := hr 0 x rfl
          rw [Nat.add_zero] at this
          rw [this]
        | inr q => exact h.elim
      | ref p => cases a with
        | inl iv => exact h.elim
        | inr q => cases q with
          | none => exact h.elim
          | some q =>
            obtain ⟨rfl, h⟩ := h
            show some (Value.ref p) :: evL r (spL (k + 1) (u.map some ++ List.replicate m none)) = some (Value.ref p) :: (t.map some ++ List.replicate m none)
            rw [step h]
      | null => cases a with
        | inl iv => exact h.elim
        | inr q => cases q with
          | none =>
            show some Value.null :: evL r (spL (k + 1) (u.map some ++ List.replicate m none)) = some Value.null :: (t.map some ++ List.replicate m none)
            rw [step h]
          | some q => exact h.elim
      | _ => exact h.elim
theorem argM_at : ∀ {vs : List Value} {as : List (Iv ⊕ Option Nat)} {j : Nat} {iv : Iv}, argM vs as → as[j]? = some (.inl iv) → ∃ x, vs[j]? = some (.int x) ∧ inIv iv x := by
  intro vs
  induction vs with
  | nil =>
    intro as j iv h hj
    cases as with
    | nil => simp at hj
    | cons a t => exact h.elim
  | cons v t ih =>
    intro as j iv h hj
    cases as with
    | nil => cases v <;> exact h.elim
    | cons a u =>
      cases v with
      | int x => cases a with
        | inl iv0 =>
          cases j with
          | zero => simp at hj; subst hj; exact ⟨x, rfl, h.1⟩
          | succ j => exact ih h.2 (by simpa using hj)
        | inr q => exact h.elim
      | ref p => cases a with
        | inl iv0 => exact h.elim
        | inr q => cases q with
          | none => exact h.elim
          | some q =>
            cases j with
            | zero => simp at hj
            | succ j => exact ih h.2 (by simpa using hj)
      | null => cases a with
        | inl iv0 => exact h.elim
        | inr q => cases q with
          | none =>
            cases j with
            | zero => simp at hj
            | succ j => exact ih h (by simpa using hj)
          | some q => exact h.elim
      | _ => exact h.elim
theorem argM_cat : ∀ {vs : List Value} {as : List (Iv ⊕ Option Nat)}, argM vs as → ∀ v ∈ vs, v.category = 1 := by
  intro vs
  induction vs with
  | nil => intro as h v hv; exact nomatch hv
  | cons w t ih =>
    intro as h v hv
    cases as with
    | nil => cases w <;> exact h.elim
    | cons a u =>
      rcases List.mem_cons.mp hv with e | hv
      · subst e
        cases v with
        | int x => rfl
        | ref p => rfl
        | null => rfl
        | _ => exact h.elim
      · have : argM t u := by
          cases w with
          | int x => cases a with
            | inl iv => exact h.2
            | inr q => exact h.elim
          | ref p => cases a with
            | inl iv => exact h.elim
            | inr q => cases q with
              | none => exact h.elim
              | some q => exact h.2
          | null => cases a with
            | inl iv => exact h.elim
            | inr q => cases q with
              | none => exact h
              | some q => exact h.elim
          | _ => exact h.elim
        exact ih this v hv
theorem resO_ok {r : Nat → Int32} {g : List Iv} (hS : Sat r g) {a : Option Af ⊕ Nat} {p : Option Iv ⊕ Nat} (h : resO g a p = true) : resM (edV r a) p := by
  cases a with
  | inl o =>
    cases o with
    | none =>
      cases p with
      | inl q => cases q with
        | none => trivial
        | some iv => exact nomatch h
      | inr n => exact nomatch h
    | some a =>
      cases p with
      | inl q => cases q with
        | none => exact nomatch h
        | some iv => exact subI_ok h (ivA_ok hS a)
      | inr n => exact nomatch h
  | inr n =>
    cases p with
    | inl q => cases q <;> exact nomatch h
    | inr m =>
      have h := of_decide_eq_true h
      subst h
      rfl
theorem mxO_ok {n m : Nat} {ms : Ms} (h : mxO n ms = true) (hn : n ≤ m) : mOK m ms := by
  have h := of_decide_eq_true h
  exact ⟨fun q => Nat.lt_of_lt_of_le (h.1 q) hn, fun q => Nat.lt_of_lt_of_le (h.2.1 q) hn, fun q => Nat.lt_of_lt_of_le (h.2.2 q) hn⟩
theorem chk_ok {G : Gx} {hx : Hx} {X : Hi → Prop} {mt : Mt} {mc : Nat → Co} {cts : List Ctr} (n : Nat) (c : Ctr) (cuts : List Cu) (hO : hxOK hx X) (hmc : okMc mt mc) (hct : ∀ c ∈ cts, CtOK G hx X mt c) (hS : c.2.2.2.2.2.1 = hx.2.2.2) (h : chk hx mt mc cts n c cuts = true) : CtOK G hx X mt c := by
  obtain ⟨mi, dd, bud, as, fa, S, ps⟩ := c
  subst hS
  simp only [chk, Bool.and_eq_true, Bool.not_eq_true', Nat.ble_eq] at h
  obtain ⟨⟨h1, h2, h3⟩, h4⟩ := h
  have hR := run_ok hO hmc hct n
  obtain ⟨hpn, -, -⟩ := hmc mi (fun q => by rw [q] at h1; exact nomatch h1)
  intro k I vs hB hX hA hF
  have hA : argM vs as := hA
  have hF : faM I fa := hF
  show Ct G GAM (mt mi).1 (dd + k) bud vs I (fun o J => (∀ c j, inIv (hx.1 c j) (J c j)) ∧ X J ∧ Fs hx.2.2.2 I J ∧ ∃ p ∈ ps, resM o p.1 ∧ faM J p.2)
  have hend : ∀ (n0 : Nat) (r0 : Nat → Int32) (es : List Ed), es.all (endO hx ps) = true → ∀ e ∈ es, Ge (fun o J => (∀ c j, inIv (hx.1 c j) (J c j)) ∧ X J ∧ Fs hx.2.2.2 I J ∧ ∃ p ∈ ps, resM o p.1 ∧ faM J p.2) n0 r0 (HPof hx X I) e := by
    intro n0 r0 es hes e he r J _ hSa hP hK
    obtain ⟨p, hp, h5⟩ := List.any_eq_true.mp (List.all_eq_true.mp hes e he)
    simp only [Bool.and_eq_true] at h5
    exact ⟨hP.1, hP.2.1, hP.2.2, p, hp, resO_ok hSa h5.1, arF_ok hSa hP.1 hK h5.2⟩
  have hcut : ∀ N, ∀ u ∈ cuts, cutH9 G (mt mi).1 (fun o J => (∀ c j, inIv (hx.1 c j) (J c j)) ∧ X J ∧ Fs hx.2.2.2 I J ∧ ∃ p ∈ ps, resM o p.1 ∧ faM J p.2) (dd + k) (HPof hx X I) N u := by
    intro N
    induction N with
    | zero => intro u _ r J _ _ _ hm; exact absurd hm (Nat.not_lt_zero _)
    | succ N ih =>
      intro u hu r J hSa hP hK hm
      have h5 := List.all_eq_true.mp h4 u hu
      simp only [Bool.and_eq_true] at h5
      obtain ⟨h5, h6⟩ := h5
      unfold allE at h6
      split at h6
      · rename_i es hes
        exact hR _ _ _ _ _ _ _ _ _ _ hes (fun _ h => h) k _ r I (fun u' hu' r' J' a1 a2 a3 a4 => ih u' hu' r' J' a1 a2 a3 (by omega)) (mxO_ok h5 (by unfold spG; rw [List.length_append, List.length_map]; omega)) (hend _ _ es h6) r J (fun _ _ => rfl) hSa hP hK
      · cases h6
  unfold allE at h3
  split at h3
  · rename_i es hes
    have hlen := argM_len hA
    have hml : (spA (mt mi).1.2.2.1 as).length = (mt mi).1.2.2.1 := by
      have h2 : as.length ≤ (mt mi).1.2.2.1 := h2
      unfold spA
      rw [List.length_append, List.length_map, List.length_replicate]
      omega
    have hfa : ∀ (j : Nat) (f : (Nat × Nat) × Iv), fa[j]? = some f → arR vs (mt mi).1.2.2.1 fa I ((mt mi).1.2.2.1 + j) = I f.1.1 f.1.2 := by
      intro j f hf
      unfold arR
      rw [if_neg (by omega), show (mt mi).1.2.2.1 + j - (mt mi).1.2.2.1 = j by omega, hf]
    have hv : ∀ (j : Nat) (x : Int32), vs[j]? = some (.int x) → arR vs (mt mi).1.2.2.1 fa I (0 + j) = x := by
      intro j x hx
      rw [Nat.zero_add]
      have h2 : as.length ≤ (mt mi).1.2.2.1 := h2
      have := (List.getElem?_eq_some_iff.mp hx).1
      unfold arR
      rw [if_pos (by omega), hx]
    have hG := hR _ _ _ _ _ _ _ _ _ _ hes (fun _ h => h) k _ (arR vs (mt mi).1.2.2.1 fa I) I (fun u hu => hcut _ u hu) ⟨fun h => absurd rfl h, fun h => absurd rfl h, fun h => absurd rfl h⟩ (hend _ _ es h3) (arR vs (mt mi).1.2.2.1 fa I) I (fun _ _ => rfl) ?_ ⟨hB, hX, Fs.rf⟩ (fa_new (xs := []) hfa)
    · refine Ct.ofF hpn (argM_cat hA) (by rw [hlen]; exact h2) ?_ hG
      show evL _ (spL 0 (spA (mt mi).1.2.2.1 as)) = _
      unfold spA
      rw [spL_args _ hA hv, hlen]
    · intro v i hi
      have hi : ((spA (mt mi).1.2.2.1 as).map (fun o => match o with | some (.inl iv) => iv | _ => ivF) ++ fa.map (fun e => e.2))[v]? = some i := hi
      by_cases hlt : v < (mt mi).1.2.2.1
      · rw [List.getElem?_append_left (by rw [List.length_map, hml]; exact hlt), List.getElem?_map] at hi
        by_cases hlt2 : v < as.length
        · unfold spA at hi
          rw [List.getElem?_append_left (by rw [List.length_map]; exact hlt2), List.getElem?_map, List.getElem?_eq_getElem hlt2] at hi
          simp only [Option.map_some, Option.some.injEq] at hi
          split at hi
          · rename_i iv e
            subst hi
            have e := Option.some.inj e
            obtain ⟨x, hx1, hx2⟩ := argM_at (j := v) hA (by rw [List.getElem?_eq_getElem hlt2, e])
            have := hv v x hx1
            rw [Nat.zero_add] at this
            rw [this]
            exact hx2
          · subst hi
            exact inIv_F _
        · unfold spA at hi
          rw [List.getElem?_append_right (by rw [List.length_map]; omega), List.getElem?_replicate] at hi
          split at hi
          · simp at hi
            subst hi
            exact inIv_F _
          · simp at hi
      · rw [List.getElem?_append_right (by rw [List.length_map, hml]; omega), List.length_map, hml, List.getElem?_map] at hi
        cases e : fa[v - (mt mi).1.2.2.1]? with
        | none => rw [e] at hi; exact nomatch hi
        | some f =>
          rw [e] at hi
          cases hi
          have := hfa _ f e
          rw [show (mt mi).1.2.2.1 + (v - (mt mi).1.2.2.1) = v by omega] at this
          rw [this]
          exact hF f (List.mem_of_getElem? e)
  · cases h3
