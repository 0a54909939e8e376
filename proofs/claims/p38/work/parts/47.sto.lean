/-! ===== the checker: one step is sound ===== -/
section Weak
variable {G : Gx} {Ga : List Shp} {Y : Ym} {kx : Kx} {d b pc : Nat} {ls : List (Option Value)} {st : List Value} {I : Hi}
theorem Rn.weakL {ls' : List (Option Value)} (h : ∀ (k : Nat) (v : Value), ls'[k]? = some (some v) → ls[k]? = some (some v)) (k : Rn G Ga Y kx d b pc ls' st I) : Rn G Ga Y kx d b pc ls st I := by
  intro p e R s m args below meth c H locs cells slots tc ts Z F hk lsA hl
  refine k p e R s m args below meth c H locs cells slots tc ts Z F hk lsA ⟨hl.1, hl.2.1, fun q hq => ?_⟩
  obtain ⟨j, v, e1, e2, e3⟩ := zl_inv hq
  rw [e1]
  exact hl.2.2 _ (zl_mem e3 (h j v e2))
theorem Rn.weakB {b' : Nat} (h : b' ≤ b) (k : Rn G Ga Y kx d b' pc ls st I) : Rn G Ga Y kx d b pc ls st I := by
  intro p e R s m args below meth c H locs cells slots tc ts Z F hk lsA hl
  obtain ⟨F1, F2, F3, F4, F5, F6, F7, F8, F9⟩ := F
  exact k p e R s m args below meth c H locs cells slots tc ts Z ⟨F1, F2, F3, F4, by omega, by omega, F7, F8, F9⟩ hk lsA hl
end Weak
theorem st2_inv {f : Af → Af → List SV → Option Nx} {st : List SV} {n : Nx} (h : st2 f st = some n) : ∃ x y st', st = .inl y :: .inl x :: st' ∧ f x y st' = some n := by
  unfold st2 at h
  split at h
  · exact ⟨_, _, _, rfl, h⟩
  · cases h
theorem st1_inv {f : Af → List SV → Option Nx} {st : List SV} {n : Nx} (h : st1 f st = some n) : ∃ x st', st = .inl x :: st' ∧ f x st' = some n := by
  unfold st1 at h
  split at h
  · exact ⟨_, _, rfl, h⟩
  · cases h
theorem evV_cat (r : Nat → Int32) (v : SV) : (evV r v).category = 1 := by
  cases v with
  | inl a => rfl
  | inr q => cases q <;> rfl
theorem evS_cat (r : Nat → Int32) (st : List SV) : ((evS r st).map fun v => v.category).sum = st.length := by
  induction st with
  | nil => rfl
  | cons a t ih =>
    show (evV r a).category + ((evS r t).map fun v => v.category).sum = t.length + 1
    rw [ih, evV_cat]
    omega
theorem evL_set (r : Nat → Int32) (L : List (Option SV)) (k : Nat) (v : SV) : evL r (L.set k (some v)) = (evL r L).set k (some (evV r v)) := by
  show List.map _ _ = _
  rw [List.map_set]
  rfl
theorem evL_at {r : Nat → Int32} {L : List (Option SV)} {k : Nat} {v : SV} (h : L[k]? = some (some v)) : (evL r L)[k]? = some (some (evV r v)) := by
  show (List.map _ _)[k]? = _
  rw [List.getElem?_map, h]
  rfl
section Sto
variable {G : Gx} {Y : Ym} {Q : Rs → Hi → Prop} {d b n0 pc : Nat} {r0 r : Nat → Int32} {hx : Hx} {X : Hi → Prop} {I0 : Hi} {g : List Iv} {L : List (Option SV)} {st : List SV} {kb : Kb} {I : Hi} {ss : List (Nat × Ast)} {es : List Ed}
theorem Gd.use {s : Ast} (k : ∀ q ∈ [(pc, s)], Gd G Y Q d b n0 r0 (HPof hx X I0) q.1 q.2) (ha : ∀ v, v < n0 → r v = r0 v) (hS : Sat r s.1) (hP : HPof hx X I0 I) (hK : KbOK r s.2.2.2 I) : Rn G GAM Y (kM G GAM Q) d b pc (evL r s.2.1) (evS r s.2.2.1) I :=
  k _ (List.mem_singleton.mpr rfl) r I ha hS hP hK
theorem puN_ok {z : Option Af} {iv : Iv} {x : Int32} (h : puN n0 pc g L st kb z iv = some (ss, es)) (ks : ∀ q ∈ ss, Gd G Y Q d b n0 r0 (HPof hx X I0) q.1 q.2) (ha : ∀ v, v < n0 → r v = r0 v) (hS : Sat r g) (hP : HPof hx X I0 I) (hK : KbOK r kb I) (hz : ∀ a, z = some a → evI r a = x) (hv : inIv iv x) : Rn G GAM Y (kM G GAM Q) d b pc (evL r L) (.int x :: evS r st) I := by
  unfold puN at h
  split at h
  · rename_i a
    cases h
    have := Gd.use ks ha hS hP hK
    have e : evS r (.inl a :: st) = .int x :: evS r st := by
      show Value.int (evI r a) :: _ = _
      rw [hz a rfl]; rfl
    simp only [e] at this
    exact this
  · split at h
    · rename_i hf
      cases h
      exact Gd.fr (ks _ (List.mem_singleton.mpr rfl)) hf ha hS hP hK hv
    · cases h
theorem foldB {B : Nat → Iv} : ∀ (l : List Int) (i : Iv), (l.foldl (fun i j => (min i.1 (B j.toNat).1, max i.2 (B j.toNat).2)) i).1 ≤ i.1 ∧ i.2 ≤ (l.foldl (fun i j => (min i.1 (B j.toNat).1, max i.2 (B j.toNat).2)) i).2 ∧ ∀ j ∈ l, (l.foldl (fun i j => (min i.1 (B j.toNat).1, max i.2 (B j.toNat).2)) i).1 ≤ (B j.toNat).1 ∧ (B j.toNat).2 ≤ (l.foldl (fun i j => (min i.1 (B j.toNat).1, max i.2 (B j.toNat).2)) i).2 := by
  intro l
  induction l with
  | nil => intro i; exact ⟨Int.le_refl _, Int.le_refl _, fun j hj => nomatch hj⟩
  | cons a t ih =>
    intro i
    obtain ⟨h1, h2, h3⟩ := ih (min i.1 (B a.toNat).1, max i.2 (B a.toNat).2)
    simp only [List.foldl_cons]
    simp only at h1 h2
    refine ⟨by omega, by omega, fun j hj => ?_⟩
    rcases List.mem_cons.mp hj with hj | hj
    · subst hj
      exact ⟨by omega, by omega⟩
    · exact h3 j hj
theorem rdN_ok {c : Nat} {a : Af} (hO : hxOK hx X) (h : rdN hx n0 pc g L st kb c a = some (ss, es)) (ks : ∀ q ∈ ss, Gd G Y Q d b n0 r0 (HPof hx X I0) q.1 q.2) (ha : ∀ v, v < n0 → r v = r0 v) (hS : Sat r g) (hP : HPof hx X I0 I) (hK : KbOK r kb I) : Rn G GAM Y (kM G GAM Q) d b pc (evL r L) (.int (I c (evI r a).toNatClampNeg) :: evS r st) I := by
  have hi := ivA_ok hS a
  unfold inIv at hi
  rw [clampN]
  unfold rdN at h
  split at h
  · rename_i e
    have e9 : (evI r a).toInt = (ivA g a).1 := by omega
    rw [e9]
    split at h
    · rename_i v hv
      cases h
      have := Gd.use ks ha hS hP hK
      have e : evS r (.inl v :: st) = .int (I c (ivA g a).1.toNat) :: evS r st := by
        show Value.int (evI r v) :: _ = _
        rw [kbG_ok hv hK]; rfl
      simp only [e] at this
      exact this
    · split at h
      · rename_i hf
        cases h
        exact Gd.frK (ks _ (List.mem_singleton.mpr rfl)) hf ha hS hP hK (hP.1 _ _)
      · cases h
  · split at h
    · rename_i hf
      cases h
      refine Gd.fr (ks _ (List.mem_singleton.mpr rfl)) hf ha hS hP hK ?_
      split
      · exact inIv_F _
      · split
        · rename_i hq
          have hm := cand_ok hS hq.1 hq.2
          have := (foldB (B := hx.1 c) (cand g a) (2147483647, -2147483648)).2.2 _ hm
          have hB := hP.1 c (evI r a).toInt.toNat
          unfold inIv at hB ⊢
          exact ⟨Int.le_trans this.1 hB.1, Int.le_trans hB.2 this.2⟩
        · exact inIv_F _
    · cases h
theorem brN_ok {go : Option (List Iv)} (ks : ∀ q ∈ brN go pc L st kb, Gd G Y Q d b n0 r0 (HPof hx X I0) q.1 q.2) (hg : ∃ g', go = some g' ∧ Sat r g') (ha : ∀ v, v < n0 → r v = r0 v) (hP : HPof hx X I0 I) (hK : KbOK r kb I) : Rn G GAM Y (kM G GAM Q) d b pc (evL r L) (evS r st) I := by
  obtain ⟨g', rfl, hS⟩ := hg
  exact Gd.use (s := (g', L, st, kb)) ks ha hS hP hK
theorem nzN_ok {x : Af} (ks : ∀ q ∈ nzN g x pc L st kb, Gd G Y Q d b n0 r0 (HPof hx X I0) q.1 q.2) (hc : ¬ evI r x = 0) (ha : ∀ v, v < n0 → r v = r0 v) (hS : Sat r g) (hP : HPof hx X I0 I) (hK : KbOK r kb I) : Rn G GAM Y (kM G GAM Q) d b pc (evL r L) (evS r st) I := by
  have e0 : evI r (0, 0, 0) = 0 := by rw [evI_c]; rfl
  have hc2 : (evI r x).toInt ≠ 0 := fun e => hc (Int32.toInt_inj.mp (by rw [e]; rfl))
  unfold nzN at ks
  split at ks
  · by_cases hlt : (evI r x).toInt < 0
    · exact brN_ok (fun q hq => ks q (List.mem_append_left _ hq)) (refLe_ok hS (by rw [e0, Int32.toInt_zero]; omega)) ha hP hK
    · exact brN_ok (fun q hq => ks q (List.mem_append_right _ hq)) (refLe_ok hS (by rw [e0, Int32.toInt_zero]; omega)) ha hP hK
  · exact brN_ok ks (refNe_ok hS (by rw [e0]; exact hc)) ha hP hK
theorem tN_ok {x : Af} {c : Cc} (ks : ∀ q ∈ tN g x pc L st kb c, Gd G Y Q d b n0 r0 (HPof hx X I0) q.1 q.2) (hc : cmpP c (evI r x) 0) (ha : ∀ v, v < n0 → r v = r0 v) (hS : Sat r g) (hP : HPof hx X I0 I) (hK : KbOK r kb I) : Rn G GAM Y (kM G GAM Q) d b pc (evL r L) (evS r st) I := by
  have e0 : evI r (0, 0, 0) = 0 := by rw [evI_c]; rfl
  by_cases e : c = .ne
  · subst e
    exact nzN_ok ks hc ha hS hP hK
  · have : tN g x pc L st kb c = brN (refT g x (0, 0, 0) c) pc L st kb := by cases c <;> first | rfl | exact absurd rfl e
    rw [this] at ks
    exact brN_ok ks (refT_ok hS (by rw [e0]; exact hc)) ha hP hK
theorem fN_ok {x : Af} {c : Cc} (ks : ∀ q ∈ fN g x pc L st kb c, Gd G Y Q d b n0 r0 (HPof hx X I0) q.1 q.2) (hc : ¬ cmpP c (evI r x) 0) (ha : ∀ v, v < n0 → r v = r0 v) (hS : Sat r g) (hP : HPof hx X I0 I) (hK : KbOK r kb I) : Rn G GAM Y (kM G GAM Q) d b pc (evL r L) (evS r st) I := by
  have e0 : evI r (0, 0, 0) = 0 := by rw [evI_c]; rfl
  by_cases e : c = .eq
  · subst e
    exact nzN_ok ks hc ha hS hP hK
  · have : fN g x pc L st kb c = brN (refF g x (0, 0, 0) c) pc L st kb := by cases c <;> first | rfl | exact absurd rfl e
    rw [this] at ks
    exact brN_ok ks (refF_ok hS (by rw [e0]; exact hc)) ha hP hK
theorem Rn.icmpC {kx : Kx} {ls : List (Option Value)} {sv : List Value} {c : Cc} {x y : Int32} {off : Int} {t : Nat} (hd : decode Y.2.1 pc = .ok (.if_icmp c off, 3)) (ht : (pc : Int) + off = (t : Int)) (kt : cmpP c x y → Rn G GAM Y kx d b t ls sv I) (kf : ¬ cmpP c x y → Rn G GAM Y kx d b (pc + 3) ls sv I) : Rn G GAM Y kx d b pc ls (.int y :: .int x :: sv) I := by
  cases c with
  | eq => exact Rn.icmp_eq hd ht kt kf
  | ne => exact Rn.icmp_ne hd ht kt (fun h => kf (fun q => q h))
  | lt => exact Rn.icmp_lt hd ht kt kf
  | ge => exact Rn.icmp_ge hd ht kt kf
  | gt => exact Rn.icmp_gt hd ht kt kf
  | le => exact Rn.icmp_le hd ht kt kf
theorem Rn.ifC {kx : Kx} {ls : List (Option Value)} {sv : List Value} {c : Cc} {x : Int32} {off : Int} {t : Nat} (hd : decode Y.2.1 pc = .ok (.ifCond c off, 3)) (ht : (pc : Int) + off = (t : Int)) (kt : cmpP c x 0 → Rn G GAM Y kx d b t ls sv I) (kf : ¬ cmpP c x 0 → Rn G GAM Y kx d b (pc + 3) ls sv I) : Rn G GAM Y kx d b pc ls (.int x :: sv) I := by
  cases c with
  | eq => exact Rn.if_eq hd ht kt kf
  | ne => exact Rn.if_ne hd ht kt (fun h => kf (fun q => q h))
  | lt => exact Rn.if_lt hd ht kt kf
  | ge => exact Rn.if_ge hd ht kt kf
  | gt => exact Rn.if_gt hd ht kt kf
  | le => exact Rn.if_le hd ht kt kf
theorem vpin {r : Nat → Int32} {g : List Iv} {a : Af} {n : Nat} (hS : Sat r g) (h1 : 0 ≤ (ivA g a).1) (h2 : (ivA g a).2 < (n : Int)) : vp_in (evI r a) n := by
  have hi := ivA_ok hS a
  unfold inIv at hi
  intro h
  rcases h with h | h
  · have := Int32.lt_iff_toInt_lt.mp h
    rw [Int32.toInt_zero] at this
    omega
  · rw [clampN] at h
    omega
theorem eaN_ok {j : Af} : ∀ (k : Nat), (∀ q ∈ eaN pc g L st kb j k, Gd G Y Q d b n0 r0 (HPof hx X I0) q.1 q.2) → (∀ v, v < n0 → r v = r0 v) → Sat r g → HPof hx X I0 I → KbOK r kb I → 0 ≤ (evI r j).toInt → (evI r j).toInt < (k : Int) → Rn G GAM Y (kM G GAM Q) d b pc (evL r L) (.ref (46 + 4 * (evI r j).toInt.toNat) :: evS r st) I := by
  intro k
  induction k with
  | zero => intro _ _ _ _ _ h1 h2; omega
  | succ k ih =>
    intro ks ha hS hP hK h1 h2
    by_cases e : (evI r j).toInt = (k : Int)
    · have hk : (evI r j).toInt.toNat = k := by omega
      rw [hk]
      have e2 : evI r j = evI r (0, 0, (k : Int)) := by
        rw [evI_c]
        apply Int32.toInt_inj.mp
        have := Int32.toInt_lt (evI r j)
        rw [toI_of (by omega) (by omega)]
        exact e
      exact brN_ok (st := .inr (some (46 + 4 * k)) :: st) (fun q hq => ks q (List.mem_append_left _ hq)) (refEq_ok hS e2) ha hP hK
    · exact ih (fun q hq => ks q (List.mem_append_right _ hq)) ha hS hP hK h1 (by omega)
theorem fkN_ok {k : Nat} {a : Af} (hL : L[k]? = some (some (.inl a))) : ∀ (n : Nat), (∀ q ∈ fkN pc g L st kb k a n, Gd G Y Q d b n0 r0 (HPof hx X I0) q.1 q.2) → (∀ v, v < n0 → r v = r0 v) → Sat r g → HPof hx X I0 I → KbOK r kb I → 0 ≤ (evI r a).toInt → (evI r a).toInt < (n : Int) → Rn G GAM Y (kM G GAM Q) d b pc (evL r L) (.int (evI r a) :: evS r st) I := by
  intro n
  induction n with
  | zero => intro _ _ _ _ _ h1 h2; omega
  | succ n ih =>
    intro ks ha hS hP hK h1 h2
    by_cases e : (evI r a).toInt = (n : Int)
    · have e2 : evI r a = evI r (0, 0, (n : Int)) := by
        rw [evI_c]
        apply Int32.toInt_inj.mp
        have := Int32.toInt_lt (evI r a)
        rw [toI_of (by omega) (by omega)]
        exact e
      have key := brN_ok (st := .inl (0, 0, (n : Int)) :: st) (fun q hq => ks q (List.mem_append_left _ hq)) (refEq_ok hS e2) ha hP hK
      have e3 : evS r (.inl (0, 0, (n : Int)) :: st) = .int (evI r a) :: evS r st := by
        show Value.int (evI r (0, 0, (n : Int))) :: _ = _
        rw [← e2]; rfl
      rw [e3] at key
      refine Rn.weakL (fun j v hv => ?_) key
      rw [evL_set, List.getElem?_set] at hv
      split at hv
      · rename_i ej
        subst ej
        split at hv
        · have hv : some (some (Value.int (evI r (0, 0, (n : Int))))) = some (some v) := hv
          rw [← hv, ← e2]
          exact evL_at hL
        · cases hv
      · exact hv
    · exact ih (fun q hq => ks q (List.mem_append_right _ hq)) ha hS hP hK h1 (by omega)
theorem swN_ok {x : Af} {offs : List Int} : ∀ {lo : Int} {q : List (Nat × Ast)}, swN pc g L st kb x lo offs = some q → (∀ z ∈ q, Gd G Y Q d b n0 r0 (HPof hx X I0) z.1 z.2) → (∀ v, v < n0 → r v = r0 v) → Sat r g → HPof hx X I0 I → KbOK r kb I → lo ≤ (evI r x).toInt → ∀ off, offs[((evI r x).toInt - lo).toNat]? = some off → ∃ t : Nat, (pc : Int) + off = (t : Int) ∧ Rn G GAM Y (kM G GAM Q) d b t (evL r L) (evS r st) I := by
  induction offs with
  | nil => intro lo q _ _ _ _ _ _ _ off ho; simp at ho
  | cons o t ih =>
    intro lo q h ks ha hS hP hK hlo off ho
    unfold swN at h
    split at h
    · rename_i t' q' e1 e2
      cases h
      by_cases e : (evI r x).toInt = lo
      · rw [e] at ho
        simp at ho
        subst ho
        refine ⟨t', tgtO_ok e1, ?_⟩
        have e3 : evI r x = evI r (0, 0, lo) := by
          rw [evI_c, ← e, Int32.ofInt_toInt]
        exact brN_ok (fun z hz => ks z (List.mem_append_left _ hz)) (refEq_ok hS e3) ha hP hK
      · refine ih e2 (fun z hz => ks z (List.mem_append_right _ hz)) ha hS hP hK (by omega) off ?_
        rw [show ((evI r x).toInt - lo).toNat = ((evI r x).toInt - (lo + 1)).toNat + 1 by omega] at ho
        simpa using ho
    · cases h
theorem lkN_ok {x : Af} {ps : List (Int × Int)} {df : Int} {t0 : Nat} (h0 : (pc : Int) + df = (t0 : Int)) (k0 : Rn G GAM Y (kM G GAM Q) d b t0 (evL r L) (evS r st) I) : ∀ {q : List (Nat × Ast)}, lkN pc g L st kb x ps = some q → (∀ z ∈ q, Gd G Y Q d b n0 r0 (HPof hx X I0) z.1 z.2) → (∀ v, v < n0 → r v = r0 v) → Sat r g → HPof hx X I0 I → KbOK r kb I → ∃ t : Nat, (pc : Int) + Op.lookupswitch.offset ps df (evI r x).toInt = (t : Int) ∧ Rn G GAM Y (kM G GAM Q) d b t (evL r L) (evS r st) I := by
  induction ps with
  | nil => intro q _ _ _ _ _ _; exact ⟨t0, h0, k0⟩
  | cons p ps ih =>
    obtain ⟨a, o⟩ := p
    intro q h ks ha hS hP hK
    unfold lkN at h
    split at h
    · rename_i t' q' e1 e2
      cases h
      rw [Op.lookupswitch.offset_cons]
      by_cases e : a = (evI r x).toInt
      · rw [if_pos e]
        refine ⟨t', tgtO_ok e1, ?_⟩
        have e3 : evI r x = evI r (0, 0, a) := by
          rw [evI_c, e, Int32.ofInt_toInt]
        exact brN_ok (fun z hz => ks z (List.mem_append_left _ hz)) (refEq_ok hS e3) ha hP hK
      · rw [if_neg e]
        exact ih e2 (fun z hz => ks z (List.mem_append_right _ hz)) ha hS hP hK
    · cases h
theorem bool_of {x : Int32} (h : inIv (0, 1) x) : x = 0 ∨ x = 1 := by
  unfold inIv at h
  simp only at h
  have : x.toInt = 0 ∨ x.toInt = 1 := by omega
  rcases this with e | e
  · exact Or.inl (Int32.toInt_inj.mp (by rw [e]; rfl))
  · exact Or.inr (Int32.toInt_inj.mp (by rw [e]; rfl))
/-- the trivial cell c gets new numbers -/
theorem HP_set {c : Nat} {f : Nat → Int32} {n : Int} (hO : hxOK hx X) (ht : hx.2.1 c = true) (hc : covS hx.2.2.2 c 0 n = true) (hf : ∀ j : Nat, n ≤ (j : Int) → f j = I c j) (hP : HPof hx X I0 I) : HPof hx X I0 (zset I c f) := by
  obtain ⟨p1, p2, p3⟩ := hP
  refine ⟨fun c' j => ?_, hO.2.2 _ _ _ (fun j => (hO.1 c ht j).2) p2, fun c' j hj5 hj => ?_⟩
  · by_cases e : c' = c
    · subst e
      rw [(hO.1 c' ht j).1]
      exact inIv_F _
    · show inIv _ ((if c' = c then f else I c') j)
      rw [if_neg e]
      exact p1 c' j
  · rw [← p3 c' j hj5 hj]
    by_cases e : c' = c
    · subst e
      show (if c' = c' then f else I c') j = _
      rw [if_pos rfl]
      refine hf j ?_
      obtain ⟨q, hq, h4⟩ := List.any_eq_true.mp hc
      simp only [Bool.and_eq_true, decide_eq_true_eq] at h4
      have := List.any_eq_false.mp hj q hq
      simp only [Bool.and_eq_true, decide_eq_true_eq, Nat.ble_eq] at this
      false_or_by_contra
      exact this ⟨h4.1, by omega, by omega⟩
    · show (if c' = c then f else I c') j = _
      rw [if_neg e]
theorem kbF_ok {c : Nat} {J : Hi} (hJ : ∀ c', c' ≠ c → J c' = I c') (hK : KbOK r kb I) : KbOK r (kb.filter (fun e => !decide (e.1.1 = c))) J := by
  intro e he
  obtain ⟨h1, h2⟩ := List.mem_filter.mp he
  simp only [Bool.not_eq_true', decide_eq_false_iff_not] at h2
  rw [hJ _ h2]
  exact hK e h1
end Sto
