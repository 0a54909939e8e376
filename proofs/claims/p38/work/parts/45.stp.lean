/-! ===== the checker: one step ===== -/
abbrev In : Type := Jvm.ClassFile.Instr
/-- an end: what is returned (none: nothing), or the number of what is thrown -/
abbrev Ed : Type := List Iv × (Option Af ⊕ Nat) × Kb
def KbOK (r : Nat → Int32) (kb : Kb) (I : Hi) : Prop := ∀ e, e ∈ kb → I e.1.1 e.1.2 = evI r e.2
def edV (r : Nat → Int32) : Option Af ⊕ Nat → Rs
  | .inl o => .inl (o.map (fun a => .int (evI r a)))
  | .inr E => .inr (zCs.getD E "")
def Gd (G : Gx) (Y : Ym) (Q : Rs → Hi → Prop) (d b n0 : Nat) (r0 : Nat → Int32) (HP : Hi → Prop) (pc : Nat) (s : Ast) : Prop :=
  ∀ (r : Nat → Int32) (I : Hi), (∀ v, v < n0 → r v = r0 v) → Sat r s.1 → HP I → KbOK r s.2.2.2 I → Rn G GAM Y (kM G GAM Q) d b pc (evL r s.2.1) (evS r s.2.2.1) I
def Ge (Q : Rs → Hi → Prop) (n0 : Nat) (r0 : Nat → Int32) (HP : Hi → Prop) (e : Ed) : Prop :=
  ∀ (r : Nat → Int32) (I : Hi), (∀ v, v < n0 → r v = r0 v) → Sat r e.1 → HP I → KbOK r e.2.2 I → Q (edV r e.2.1) I
/-! new variables -/
def scA (n : Nat) (a : Af) : Bool := decide (a.2.1 = 0) || Nat.blt a.1 n
def scV (n : Nat) : SV → Bool
  | .inl a => scA n a
  | .inr _ => true
def scO (n : Nat) : Option SV → Bool
  | none => true
  | some v => scV n v
def frO (n0 : Nat) (g : List Iv) (L : List (Option SV)) (st : List SV) (kb : Kb) : Bool := Nat.ble n0 g.length && (L.all (scO g.length) && (st.all (scV g.length) && kb.all (fun e => scA g.length e.2)))
theorem scA_ok {n : Nat} {a : Af} {r r' : Nat → Int32} (h : scA n a = true) (hr : ∀ v, v < n → r' v = r v) : evI r' a = evI r a := by
  simp only [scA, Bool.or_eq_true, decide_eq_true_eq] at h
  unfold evI
  rcases h with h | h
  · rw [h, Int.zero_mul, Int.zero_mul]
  · rw [hr _ (Nat.blt_eq.mp h)]
theorem scV_ok {n : Nat} {a : SV} {r r' : Nat → Int32} (h : scV n a = true) (hr : ∀ v, v < n → r' v = r v) : evV r' a = evV r a := by
  cases a with
  | inl a => show Value.int _ = Value.int _; rw [scA_ok h hr]
  | inr q => cases q <;> rfl
theorem evS_ok {n : Nat} {st : List SV} {r r' : Nat → Int32} (h : st.all (scV n) = true) (hr : ∀ v, v < n → r' v = r v) : evS r' st = evS r st :=
  List.map_congr_left (fun a ha => scV_ok (List.all_eq_true.mp h a ha) hr)
theorem scO_ok {n : Nat} {o : Option SV} {r r' : Nat → Int32} (h : scO n o = true) (hr : ∀ v, v < n → r' v = r v) : o.map (evV r') = o.map (evV r) := by
  cases o with
  | none => rw [Option.map_none, Option.map_none]
  | some a => rw [Option.map_some, Option.map_some, scV_ok (a := a) h hr]
theorem evL_ok {n : Nat} {L : List (Option SV)} {r r' : Nat → Int32} (h : L.all (scO n) = true) (hr : ∀ v, v < n → r' v = r v) : evL r' L = evL r L :=
  List.map_congr_left (fun a ha => scO_ok (List.all_eq_true.mp h a ha) hr)
theorem KbOK_ok {n : Nat} {kb : Kb} {r r' : Nat → Int32} {I : Hi} (h : kb.all (fun e => scA n e.2) = true) (hr : ∀ v, v < n → r' v = r v) (hk : KbOK r kb I) : KbOK r' kb I :=
  fun e he => by rw [hk e he, scA_ok (List.all_eq_true.mp h e he) hr]
def exr (r : Nat → Int32) (n : Nat) (xs : List Int32) : Nat → Int32 := fun v => if v < n then r v else (xs[v - n]?).getD 0
theorem exr_lt {r : Nat → Int32} {n : Nat} {xs : List Int32} : ∀ v, v < n → exr r n xs v = r v := fun v hv => by simp [exr, hv]
theorem exr_at {r : Nat → Int32} {n j : Nat} {xs : List Int32} {x : Int32} (h : xs[j]? = some x) : exr r n xs (n + j) = x := by
  unfold exr
  rw [if_neg (by omega), show n + j - n = j by omega, h]
  rfl
theorem exr_Sat {r : Nat → Int32} {g ivs : List Iv} {xs : List Int32} (h : Sat r g) (hl : ivs.length = xs.length) (hx : ∀ (j : Nat) (i : Iv) (x : Int32), ivs[j]? = some i → xs[j]? = some x → inIv i x) : Sat (exr r g.length xs) (g ++ ivs) := by
  intro v i hv
  by_cases hlt : v < g.length
  · rw [List.getElem?_append_left hlt] at hv
    rw [exr_lt v hlt]
    exact h v i hv
  · rw [List.getElem?_append_right (by omega)] at hv
    have hj : v - g.length < xs.length := by
      rw [← hl]; exact (List.getElem?_eq_some_iff.mp hv).1
    have hx2 : xs[v - g.length]? = some xs[v - g.length] := List.getElem?_eq_getElem hj
    have := hx _ _ _ hv hx2
    have e : exr r g.length xs (g.length + (v - g.length)) = xs[v - g.length] := exr_at hx2
    rw [show g.length + (v - g.length) = v by omega] at e
    rw [e]
    exact this
section Fresh
variable {G : Gx} {Y : Ym} {Q : Rs → Hi → Prop} {d b n0 pc : Nat} {r0 r : Nat → Int32} {HP : Hi → Prop} {g : List Iv} {L : List (Option SV)} {st : List SV} {kb : Kb} {I : Hi}
theorem frO_ok (h : frO n0 g L st kb = true) : n0 ≤ g.length ∧ L.all (scO g.length) = true ∧ st.all (scV g.length) = true ∧ kb.all (fun e => scA g.length e.2) = true := by
  simp only [frO, Bool.and_eq_true] at h
  exact ⟨Nat.le_of_ble_eq_true h.1, h.2⟩
/-- new variables ivs for the values xs; what is known more: kb' -/
theorem Gd.exts {ivs : List Iv} {xs : List Int32} {st' : List SV} {kb' : Kb} {vs : List Value} (k : Gd G Y Q d b n0 r0 HP pc (g ++ ivs, L, st' ++ st, kb' ++ kb)) (h : frO n0 g L st kb = true) (ha : ∀ v, v < n0 → r v = r0 v) (hS : Sat r g) (hP : HP I) (hK : KbOK r kb I)
    (hl : ivs.length = xs.length) (hx : ∀ (j : Nat) (i : Iv) (x : Int32), ivs[j]? = some i → xs[j]? = some x → inIv i x) (hv : evS (exr r g.length xs) st' = vs) (hk : KbOK (exr r g.length xs) kb' I) : Rn G GAM Y (kM G GAM Q) d b pc (evL r L) (vs ++ evS r st) I := by
  obtain ⟨h0, h1, h2, h3⟩ := frO_ok h
  have e := k (exr r g.length xs) I (fun v hv => by rw [exr_lt v (by omega)]; exact ha v hv) (exr_Sat hS hl hx) hP (fun e he => (List.mem_append.mp he).elim (hk e) (KbOK_ok h3 exr_lt hK e))
  have e1 : evL (exr r g.length xs) L = evL r L := evL_ok h1 exr_lt
  have e2 : evS (exr r g.length xs) st = evS r st := evS_ok h2 exr_lt
  have e3 : evS (exr r g.length xs) (st' ++ st) = vs ++ evS r st := by
    show List.map _ _ = _
    rw [List.map_append]
    show evS _ st' ++ evS _ st = _
    rw [hv, e2]
  simp only [e1, e3] at e
  exact e
theorem Gd.fr {iv : Iv} {x : Int32} (k : Gd G Y Q d b n0 r0 HP pc (g ++ [iv], L, .inl (g.length, 1, 0) :: st, kb)) (h : frO n0 g L st kb = true) (ha : ∀ v, v < n0 → r v = r0 v) (hS : Sat r g) (hP : HP I) (hK : KbOK r kb I) (hx : inIv iv x) : Rn G GAM Y (kM G GAM Q) d b pc (evL r L) (.int x :: evS r st) I :=
  Gd.exts (ivs := [iv]) (xs := [x]) (st' := [.inl (g.length, 1, 0)]) (kb' := []) (vs := [.int x]) k h ha hS hP hK rfl
    (fun j i y h1 h2 => by
      cases j with
      | zero => simp at h1 h2; subst h1; subst h2; exact hx
      | succ j => simp at h1)
    (by
      show [Value.int (evI _ (g.length, 1, 0))] = _
      rw [evI_v, show exr r g.length [x] g.length = x from exr_at (j := 0) rfl])
    (fun e he => nomatch he)
theorem Gd.frK {iv : Iv} {a j : Nat} (k : Gd G Y Q d b n0 r0 HP pc (g ++ [iv], L, .inl (g.length, 1, 0) :: st, ((a, j), (g.length, 1, 0)) :: kb)) (h : frO n0 g L st kb = true) (ha : ∀ v, v < n0 → r v = r0 v) (hS : Sat r g) (hP : HP I) (hK : KbOK r kb I) (hx : inIv iv (I a j)) : Rn G GAM Y (kM G GAM Q) d b pc (evL r L) (.int (I a j) :: evS r st) I :=
  Gd.exts (ivs := [iv]) (xs := [I a j]) (st' := [.inl (g.length, 1, 0)]) (kb' := [((a, j), (g.length, 1, 0))]) (vs := [.int (I a j)]) k h ha hS hP hK rfl
    (fun j i y h1 h2 => by
      cases j with
      | zero => simp at h1 h2; subst h1; subst h2; exact hx
      | succ j => simp at h1)
    (by
      show [Value.int (evI _ (g.length, 1, 0))] = _
      rw [evI_v, show exr r g.length [I a j] g.length = I a j from exr_at (j := 0) rfl])
    (fun e he => by
      rw [List.mem_singleton.mp he]
      show I a j = evI _ (g.length, 1, 0)
      rw [evI_v, show exr r g.length [I a j] g.length = I a j from exr_at (j := 0) rfl])
end Fresh
/-! the heap -/
def Fs (S : List (Nat × Nat × Nat)) (I J : Hi) : Prop := ∀ c j, j < 5000 → (S.any (fun q => decide (q.1 = c) && (Nat.ble q.2.1 j && Nat.ble j q.2.2))) = false → J c j = I c j
/-- what the heap's cells hold, what else is known, what may change -/
abbrev Hx : Type := (Nat → Nat → Iv) × (Nat → Bool) × (Nat → Nat → Bool) × List (Nat × Nat × Nat)
def HPof (hx : Hx) (X : Hi → Prop) (I0 : Hi) : Hi → Prop := fun I => (∀ c j, inIv (hx.1 c j) (I c j)) ∧ X I ∧ Fs hx.2.2.2 I0 I
/-- a trivial cell: anything may stand there, nothing else hangs on it -/
def hxOK (hx : Hx) (X : Hi → Prop) : Prop := (∀ c, hx.2.1 c = true → ∀ j, hx.1 c j = ivF ∧ hx.2.2.1 c j = false) ∧ (∀ I c j v, hx.2.2.1 c j = false → X I → X (zup I c j v)) ∧ (∀ I c f, (∀ j, hx.2.2.1 c j = false) → X I → X (zset I c f))
def subI (i j : Iv) : Bool := decide (j.1 ≤ i.1) && decide (i.2 ≤ j.2)
theorem subI_ok {i j : Iv} {x : Int32} (h : subI i j = true) (hx : inIv i x) : inIv j x := by
  simp only [subI, Bool.and_eq_true, decide_eq_true_eq] at h
  unfold inIv at *
  omega
/-- the places lo to hi of the cell c may be written -/
def covS (S : List (Nat × Nat × Nat)) (c : Nat) (lo hi : Int) : Bool := S.any (fun q => decide (q.1 = c) && (decide ((q.2.1 : Int) ≤ lo) && decide (hi ≤ (q.2.2 : Int))))
/-- the places that m times v and c may be, if they are few -/
def cand (g : List Iv) (a : Af) : List Int := if (ivV g a.1).2 - (ivV g a.1).1 ≤ 300 then (List.range (((ivV g a.1).2 - (ivV g a.1).1).toNat + 1)).map (fun (k : Nat) => a.2.1 * ((ivV g a.1).1 + (k : Int)) + a.2.2) else []
theorem cand_ok {r : Nat → Int32} {g : List Iv} {a : Af} (h : Sat r g) (hb : okB (rawI g a) = true) (hd : (ivV g a.1).2 - (ivV g a.1).1 ≤ 300) : (evI r a).toInt ∈ cand g a := by
  obtain ⟨h1, h2⟩ := ivV_ok h a.1
  unfold cand
  rw [if_pos hd, List.mem_map]
  refine ⟨((r a.1).toInt - (ivV g a.1).1).toNat, List.mem_range.mpr (by omega), ?_⟩
  rw [evI_raw h hb]
  congr 2
  omega
def wrO (hx : Hx) (g : List Iv) (c : Nat) (a : Af) (iv : Iv) : Bool :=
  decide (0 ≤ (ivA g a).1) && (covS hx.2.2.2 c (ivA g a).1 (ivA g a).2 && (hx.2.1 c ||
    (if (ivA g a).1 = (ivA g a).2 then subI iv (hx.1 c (ivA g a).1.toNat) && !hx.2.2.1 c (ivA g a).1.toNat
     else (okB (rawI g a) && decide ((ivV g a.1).2 - (ivV g a.1).1 ≤ 300)) && (cand g a).all (fun j => subI iv (hx.1 c j.toNat) && !hx.2.2.1 c j.toNat))))
theorem clampN {x : Int32} : x.toNatClampNeg = x.toInt.toNat := rfl
theorem wr_up {hx : Hx} {X : Hi → Prop} {I0 I : Hi} {r : Nat → Int32} {g : List Iv} {c : Nat} {a : Af} {iv : Iv} {v : Int32} (hO : hxOK hx X) (hS : Sat r g) (h : wrO hx g c a iv = true) (hv : inIv iv v) (hP : HPof hx X I0 I) : HPof hx X I0 (zup I c (evI r a).toNatClampNeg v) := by
  obtain ⟨p1, p2, p3⟩ := hP
  simp only [wrO, Bool.and_eq_true, Bool.or_eq_true, decide_eq_true_eq] at h
  obtain ⟨h0, h1, h2⟩ := h
  have ha := ivA_ok hS a
  unfold inIv at ha
  have key : inIv (hx.1 c (evI r a).toInt.toNat) v ∧ hx.2.2.1 c (evI r a).toInt.toNat = false := by
    rcases h2 with h2 | h2
    · obtain ⟨e1, e2⟩ := hO.1 c h2 (evI r a).toInt.toNat
      exact ⟨by rw [e1]; exact inIv_F v, e2⟩
    · split at h2
      · rename_i e
        have e9 : (evI r a).toInt = (ivA g a).1 := by omega
        rw [e9]
        simp only [Bool.and_eq_true, Bool.not_eq_true'] at h2
        exact ⟨subI_ok h2.1 hv, h2.2⟩
      · simp only [Bool.and_eq_true, decide_eq_true_eq] at h2
        have hm := cand_ok hS h2.1.1 h2.1.2
        have h3 := List.all_eq_true.mp h2.2 _ hm
        simp only [Bool.and_eq_true, Bool.not_eq_true'] at h3
        exact ⟨subI_ok h3.1 hv, h3.2⟩
  rw [clampN]
  refine ⟨fun c' j' => ?_, hO.2.1 _ _ _ _ key.2 p2, fun c' j' hj5 hc => ?_⟩
  · by_cases e : c' = c
    · subst e
      show inIv _ ((if c' = c' then upd (I c') _ v else I c') j')
      rw [if_pos rfl]
      by_cases e2 : j' = (evI r a).toInt.toNat
      · subst e2
        simp only [upd]
        simpa using key.1
      · simp only [upd, e2]
        exact p1 c' j'
    · show inIv _ ((if c' = c then upd (I c) _ v else I c') j')
      rw [if_neg e]
      exact p1 c' j'
  · rw [← p3 c' j' hj5 hc]
    by_cases e : c' = c
    · subst e
      show (if c' = c' then upd (I c') _ v else I c') j' = _
      rw [if_pos rfl]
      by_cases e2 : j' = (evI r a).toInt.toNat
      · exfalso
        subst e2
        obtain ⟨q, hq, h4⟩ := List.any_eq_true.mp h1
        simp only [Bool.and_eq_true, decide_eq_true_eq] at h4
        have := List.any_eq_false.mp hc q hq
        simp only [Bool.and_eq_true, decide_eq_true_eq, Nat.ble_eq] at this
        exact this ⟨h4.1, by omega, by omega⟩
      · simp only [upd, e2]
        rfl
    · show (if c' = c then upd (I c) _ v else I c') j' = _
      rw [if_neg e]
def kbG (kb : Kb) (c j : Nat) : Option Af := (kb.find? (fun e => decide (e.1.1 = c) && decide (e.1.2 = j))).map (fun e => e.2)
theorem kbG_ok {r : Nat → Int32} {kb : Kb} {I : Hi} {c j : Nat} {a : Af} (h : kbG kb c j = some a) (hK : KbOK r kb I) : I c j = evI r a := by
  unfold kbG at h
  cases e : kb.find? (fun e => decide (e.1.1 = c) && decide (e.1.2 = j)) with
  | none => rw [e] at h; cases h
  | some q =>
    rw [e] at h
    cases h
    have h1 := List.find?_some e
    simp only [Bool.and_eq_true, decide_eq_true_eq] at h1
    have h2 := hK q (List.mem_of_find?_eq_some e)
    rw [h1.1, h1.2] at h2
    exact h2
/-- behind a write of the place a of the cell c -/
def kbW (g : List Iv) (kb : Kb) (c : Nat) (a v : Af) : Kb :=
  if (ivA g a).1 = (ivA g a).2 then ((c, (ivA g a).1.toNat), v) :: kb.filter (fun e => !(decide (e.1.1 = c) && decide (e.1.2 = (ivA g a).1.toNat))) else kb.filter (fun e => !decide (e.1.1 = c))
theorem kbW_ok {r : Nat → Int32} {g : List Iv} {kb : Kb} {I : Hi} {c : Nat} {a v : Af} (hS : Sat r g) (hK : KbOK r kb I) : KbOK r (kbW g kb c a v) (zup I c (evI r a).toNatClampNeg (evI r v)) := by
  have ha := ivA_ok hS a
  unfold inIv at ha
  rw [clampN]
  unfold kbW
  have key : ∀ e ∈ kb, ¬ (e.1.1 = c ∧ e.1.2 = (evI r a).toInt.toNat) → zup I c (evI r a).toInt.toNat (evI r v) e.1.1 e.1.2 = evI r e.2 := by
    intro e he hne
    rw [← hK e he]
    show (if e.1.1 = c then upd (I c) _ _ else I e.1.1) e.1.2 = _
    by_cases e1 : e.1.1 = c
    · rw [if_pos e1, e1]
      have e2 : ¬ e.1.2 = (evI r a).toInt.toNat := fun q => hne ⟨e1, q⟩
      simp only [upd, e2]
      rfl
    · rw [if_neg e1]
  split
  · rename_i e
    have e9 : (ivA g a).1 = (evI r a).toInt := by omega
    rw [e9]
    intro q hq
    rcases List.mem_cons.mp hq with hq | hq
    · subst hq
      show (if c = c then upd (I c) _ _ else I c) _ = _
      rw [if_pos rfl]
      simp [upd]
    · obtain ⟨h1, h2⟩ := List.mem_filter.mp hq
      simp only [Bool.not_eq_true', Bool.and_eq_false_iff, decide_eq_false_iff_not] at h2
      exact key q h1 (fun h3 => h2.elim (fun h4 => h4 h3.1) (fun h4 => h4 h3.2))
  · intro q hq
    obtain ⟨h1, h2⟩ := List.mem_filter.mp hq
    simp only [Bool.not_eq_true', decide_eq_false_iff_not] at h2
    exact key q h1 (fun h3 => h2 h3.1)
