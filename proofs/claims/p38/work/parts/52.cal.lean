/-! ===== the checker: calls, the whole walk ===== -/
section Cal
variable {G : Gx} {Y : Ym} {Q : Rs → Hi → Prop} {d b pc : Nat} {ls : List (Option Value)} {I : Hi} {mt : Mt} {i : In} {info : List (Nat × Nat)} {st vs rest : List SV} {mi : Nat} {r : Nat → Int32}
theorem call_any {Rr : Rs → Hi → Prop} (hI : okI mt Y pc i info) (h : calO mt i info st = some (mi, vs, rest)) (h8 : rest.length ≤ 8) (hc : Ct G GAM (mt mi).1 d (mt mi).2.2.2 (evS r vs) I Rr) (hn : (mt mi).2.2.2 = 0 → ∀ E J, ¬ Rr (.inr E) J) (hq : ∀ E J, Rr (.inr E) J → Q (.inr E) J)
    (k : ∀ v J, Rr (.inl v) J → Rn G GAM Y (kM G GAM Q) (d + 1) b (pc + 3) ls (v.toList ++ evS r rest) J) : Rn G GAM Y (kM G GAM Q) (d + 1) (b + (mt mi).2.2.2) pc ls (evS r st) I := by
  obtain ⟨⟨len, hd, hl⟩, hi⟩ := hI
  unfold calO at h
  split at h
  · -- static
    obtain rfl : len = 3 := hl.resolve_left Bool.false_ne_true
    split at h
    · rename_i q
      split at h
      · rename_i hk
        cases h
        have hi := hi q (List.mem_singleton.mpr rfl)
        rw [if_pos hk.1] at hi
        refine Rn.callSt (mc := (mt q.2).2.2.2) (As := evS r (st.take (mt q.2).2.1).reverse) (rest := evS r (st.drop (mt q.2).2.1)) hd hi ?_ ?_ (by rw [evS_cat]; exact h8) hc hq k
        · unfold evS
          rw [← List.map_reverse, List.reverse_reverse, ← List.map_append, List.take_append_drop]
        · unfold evS
          rw [List.length_map, List.length_reverse, List.length_take]
          omega
      · cases h
    · cases h
  · -- virtual
    obtain rfl : len = 3 := hl.resolve_left Bool.false_ne_true
    split at h
    · rename_i q info'
      split at h
      · rename_i a rest' hdr
        split at h
        · rename_i o hG
          split at h
          · rename_i z hz
            split at h
            · rename_i hk
              cases h
              have hz1 := List.find?_some hz
              simp only [decide_eq_true_eq] at hz1
              obtain ⟨C, T, N, hC, hM⟩ := hi z (List.mem_of_find?_eq_some hz)
              rw [hz1] at hC
              have hlt : (mt q.2).2.1 - 1 < st.length := by
                false_or_by_contra
                rw [List.drop_eq_nil_of_le (by omega)] at hdr
                exact nomatch hdr
              have hst : evS r st = (evS r (st.take ((mt q.2).2.1 - 1)).reverse).reverse ++ .ref a :: evS r rest := by
                have : st = st.take ((mt q.2).2.1 - 1) ++ .inr (some a) :: rest := by rw [← hdr, List.take_append_drop]
                show List.map _ st = _
                rw [this]
                unfold evS
                rw [List.map_append, ← List.map_reverse, List.reverse_reverse, ← this]
                rfl
              have hlen : (evS r (st.take ((mt q.2).2.1 - 1)).reverse).length = (mt z.2).2.1 - 1 := by
                unfold evS
                rw [List.length_map, List.length_reverse, List.length_take]
                omega
              rcases hM with hM | ⟨hm0, hM⟩
              · exact Rn.callVt (mc := (mt z.2).2.2.2) hd hM hG hC hst hlen (by rw [evS_cat]; exact h8) hc hq k
              · rw [hm0] at hc ⊢
                rcases hM with hM | ⟨x, hM⟩
                · exact Rn.callUx hd hM hG hC hst hlen (by rw [evS_cat]; exact h8) hc (hn hm0) k
                · exact Rn.callAx hd hM hG hC hst hlen (by rw [evS_cat]; exact h8) hc (hn hm0) k
            · cases h
          · cases h
        · cases h
      · cases h
    · cases h
  · cases h
end Cal
def TrOK (G : Gx) (hx : Hx) (X : Hi → Prop) (mt : Mt) (mc : Nat → Co) (tr : Tr) : Prop :=
  ∀ (dd mi bud n0 : Nat) (cuts : List Cu) (m0 : Ms) (pc : Nat) (cs : Co) (s : Ast) (es : List Ed), tr dd mi bud n0 cuts m0 pc cs s = some es → (∀ e ∈ cs, e ∈ mc mi) → ∀ (k : Nat) (Q : Rs → Hi → Prop) (r0 : Nat → Int32) (I0 : Hi), (∀ c ∈ cuts, cutH9 G (mt mi).1 Q (dd + k) (HPof hx X I0) (mu3 r0 m0) c) → mOK n0 m0 →
    (∀ e ∈ es, Ge Q n0 r0 (HPof hx X I0) e) → Gd G (mt mi).1 Q (dd + k) bud n0 r0 (HPof hx X I0) pc s
section RunOK
variable {G : Gx} {hx : Hx} {X : Hi → Prop} {mt : Mt} {mc : Nat → Co} {cts : List Ctr} {tr : Tr}
theorem goN_ok (hT : TrOK G hx X mt mc tr) {dd mi bud n0 : Nat} {cuts : List Cu} {m0 : Ms} {cs : Co} {q : Nat × Ast} {es : List Ed} (h : goN hx tr dd mi bud n0 cuts m0 cs q = some es) (hcs : ∀ e ∈ cs, e ∈ mc mi) {k : Nat} {Q : Rs → Hi → Prop} {r0 : Nat → Int32} {I0 : Hi} (hc : ∀ c ∈ cuts, cutH9 G (mt mi).1 Q (dd + k) (HPof hx X I0) (mu3 r0 m0) c) (hm : mOK n0 m0)
    (he : ∀ e ∈ es, Ge Q n0 r0 (HPof hx X I0) e) : Gd G (mt mi).1 Q (dd + k) bud n0 r0 (HPof hx X I0) q.1 q.2 := by
  unfold goN at h
  split at h
  · rename_i c hf
    have h1 := List.find?_some hf
    simp only [Bool.and_eq_true, decide_eq_true_eq] at h1
    rw [← h1.1]
    exact arr_ok hm h1.2 (hc c (List.mem_of_find?_eq_some hf))
  · split at h
    · cases h
    · exact hT _ _ _ _ _ _ _ _ _ _ h hcs k Q r0 I0 hc hm he
theorem runF_ok (hO : hxOK hx X) (hmc : okMc mt mc) (hct : ∀ c ∈ cts, CtOK G hx X mt c) (hT : TrOK G hx X mt mc tr) : TrOK G hx X mt mc (runF hx mt mc cts tr) := by
  intro dd mi bud n0 cuts m0 pc cs s es h hcs k Q r0 I0 hc hm he
  obtain ⟨g, L, st, kb⟩ := s
  unfold runF at h
  split at h
  · cases h
  · rename_i e cs' hent
    obtain ⟨e1, e2⟩ := entO_ok hcs hent
    have hmem : e ∈ mc mi := e2 e List.mem_cons_self
    obtain ⟨hpn, hret, hok⟩ := hmc mi (fun q => by rw [q] at hmem; exact nomatch hmem)
    have hI := hok e hmem
    rw [e1] at hI
    have hcs' : ∀ x ∈ cs', x ∈ mc mi := fun x hx => e2 x (List.mem_cons_of_mem _ hx)
    split at h
    · rename_i mi' vs rest hcal
      split at h
      · cases h
      · rename_i dd'
        split at h
        · rename_i hfr
          obtain ⟨h8, hfr⟩ := hfr
          intro r I ha hS hP hK
          have hS : Sat r g := hS
          have hK : KbOK r kb I := hK
          show Rn G GAM (mt mi).1 (kM G GAM Q) (dd' + 1 + k) bud pc (evL r L) (evS r st) I
          have hfr : frO n0 g L rest kb = true := hfr
          obtain ⟨f0, f1, f2, f3⟩ := frO_ok hfr
          rw [show dd' + 1 + k = (dd' + k) + 1 by omega]
          split at h
          · -- a contract
            rename_i c hf
            have hu := List.find?_some hf
            simp only [useO, Bool.and_eq_true, decide_eq_true_eq, Nat.ble_eq] at hu
            obtain ⟨u1, u2, u3, u4, u5, u6, u7, u8⟩ := hu
            have hC := hct c (List.mem_of_find?_eq_some hf) (dd' - c.2.1 + k) I (evS r vs) hP.1 hP.2.1 (argO_ok hS u5) (arF_ok hS hP.1 hK u6)
            rw [u1, show c.2.1 + (dd' - c.2.1 + k) = dd' + k by omega, u3] at hC
            rw [show bud = (bud - c.2.2.1) + (mt mi').2.2.2 by omega]
            have hall := allO_ok h
            refine call_any hI hcal h8 hC ?_ ?_ ?_
            · intro h0 E J hJ
              obtain ⟨-, -, -, p, hp, hr, -⟩ := hJ
              rw [u3, h0] at u8
              have u8 := (Bool.or_eq_true _ _).mp u8
              have := List.all_eq_true.mp (u8.resolve_left (by decide)) p hp
              obtain ⟨p1, p2⟩ := p
              cases p1 with
              | inl o => cases o <;> exact hr
              | inr n => exact nomatch this
            · intro E J hJ
              obtain ⟨j1, j2, j3, p, hp, hr, hfa⟩ := hJ
              obtain ⟨p1, p2⟩ := p
              cases p1 with
              | inl o => cases o <;> exact hr.elim
              | inr n =>
                have hr : E = zCs.getD n "" := hr
                obtain ⟨x, hx1, hx2⟩ := hall _ (List.mem_map.mpr ⟨_, hp, rfl⟩)
                cases hx1
                have := he _ (hx2 _ (List.mem_singleton.mpr rfl)) (exr r g.length (p2.map (fun f => J f.1.1 f.1.2))) J (fun v hv => by rw [exr_lt v (by omega)]; exact ha v hv)
                  (exr_Sat hS (by simp) (fun j i y h1 h2 => by
                    rw [List.getElem?_map] at h1 h2
                    cases e : p2[j]? with
                    | none => rw [e] at h1; exact nomatch h1
                    | some f =>
                      rw [e] at h1 h2
                      cases h1
                      cases h2
                      exact hfa f (List.mem_of_getElem? e)))
                  ⟨j1, j2, hP.2.2.tr (subS_ok u7 j3)⟩
                  (fun z hz => (List.mem_append.mp hz).elim (fa_new (xs := []) (fun j f hf => exr_at (by rw [List.getElem?_map, hf]; rfl)) z) (killS_ok j3 (KbOK_ok f3 exr_lt hK) z))
                rw [hr]
                exact this
            · intro v J hJ
              obtain ⟨j1, j2, j3, p, hp, hr, hfa⟩ := hJ
              obtain ⟨x, hx1, hx2⟩ := hall _ (List.mem_map.mpr ⟨_, hp, rfl⟩)
              have hP' : HPof hx X I0 J := ⟨j1, j2, hP.2.2.tr (subS_ok u7 j3)⟩
              have hK' : KbOK r (killS c.2.2.2.2.2.1 kb) J := killS_ok j3 hK
              have f3' : (killS c.2.2.2.2.2.1 kb).all (fun e => scA g.length e.2) = true := List.all_eq_true.mpr (fun z hz => List.all_eq_true.mp f3 z (List.mem_filter.mp hz).1)
              have hfr' : frO n0 g L rest (killS c.2.2.2.2.2.1 kb) = true := by
                simp only [frO, Bool.and_eq_true]
                exact ⟨Nat.ble_eq.mpr f0, f1, f2, f3'⟩
              obtain ⟨p1, p2⟩ := p
              cases p1 with
              | inr n => cases v <;> (try (rename_i v; cases v)) <;> exact hr.elim
              | inl o =>
                cases o with
                | none =>
                  cases v with
                  | some v => cases v <;> exact hr.elim
                  | none =>
                    have hg := goN_ok hT hx1 hcs' (k := k) hc hm (fun e he' => he e (hx2 e he'))
                    rw [show dd' + 1 + k = (dd' + k) + 1 by omega] at hg
                    exact Gd.exts (xs := p2.map (fun f => J f.1.1 f.1.2)) (st' := []) (vs := []) hg hfr' ha hS hP' hK' (by simp)
                      (fun j i y h1 h2 => by
                        rw [List.getElem?_map] at h1 h2
                        cases e : p2[j]? with
                        | none => rw [e] at h1; exact nomatch h1
                        | some f =>
                          rw [e] at h1 h2
                          cases h1
                          cases h2
                          exact hfa f (List.mem_of_getElem? e)) rfl (fa_new (xs := []) (fun j f hf => exr_at (by rw [List.getElem?_map, hf]; rfl)))
                | some iv =>
                  cases v with
                  | none => exact hr.elim
                  | some v =>
                    cases v with
                    | int y =>
                      have hr : inIv iv y := hr
                      have hg := goN_ok hT hx1 hcs' (k := k) hc hm (fun e he' => he e (hx2 e he'))
                      rw [show dd' + 1 + k = (dd' + k) + 1 by omega] at hg
                      refine Gd.exts (ivs := iv :: p2.map (fun e => e.2)) (xs := y :: p2.map (fun f => J f.1.1 f.1.2)) (st' := [.inl (g.length, 1, 0)]) (vs := [.int y]) hg hfr' ha hS hP' hK' (by simp)
                        (fun j i z h1 h2 => by
                          cases j with
                          | zero => simp at h1 h2; subst h1; subst h2; exact hr
                          | succ j =>
                            simp only [List.getElem?_cons_succ] at h1 h2
                            rw [List.getElem?_map] at h1 h2
                            cases e : p2[j]? with
                            | none => rw [e] at h1; exact nomatch h1
                            | some f =>
                              rw [e] at h1 h2
                              cases h1
                              cases h2
                              exact hfa f (List.mem_of_getElem? e)) ?_ (fa_new (xs := []) (fun j f hf => ?_))
                      · show [Value.int (evI _ (g.length, 1, 0))] = _
                        rw [evI_v, show exr r g.length (y :: p2.map (fun f => J f.1.1 f.1.2)) g.length = y from exr_at (j := 0) rfl]
                      · rw [show g.length + 1 + j = g.length + (j + 1) by omega]
                        exact exr_at (by rw [List.getElem?_cons_succ, List.getElem?_map, hf]; rfl)
                    | _ => exact hr.elim
          · -- walked through
            split at h
            · rename_i hk9
              obtain ⟨k1, k2, k3, k4⟩ := hk9
              split at h
              · rename_i es' hrun
                split at h
                · rename_i hinl
                  have hall := allO_ok h
                  let Rr : Rs → Hi → Prop := fun o J => ∃ e ∈ es', ∃ r' : Nat → Int32, (∀ v, v < g.length → r' v = r v) ∧ Sat r' e.1 ∧ HPof hx X I0 J ∧ KbOK r' e.2.2 J ∧ o = edV r' e.2.1
                  have hmi : mc mi' ≠ [] := fun q => by rw [q] at k4; exact nomatch k4
                  obtain ⟨hpn', -, -⟩ := hmc mi' hmi
                  have hG := hT _ _ _ _ _ _ _ _ _ _ hrun (fun _ h => h) k Rr r I0 (fun c hc => nomatch hc) ⟨(fun h => absurd rfl h), (fun h => absurd rfl h), (fun h => absurd rfl h)⟩ (fun e he' r' J ha' hS' hP' hK' => ⟨e, he', r', ha', hS', hP', hK', rfl⟩)
                  have hG := hG r I (fun _ _ => rfl) hS hP hK
                  have hC : Ct G GAM (mt mi').1 (dd' + k) (mt mi').2.2.2 (evS r vs) I Rr := by
                    refine Ct.ofF hpn' (fun v hv => ?_) (by unfold evS; rw [List.length_map]; exact k3) ?_ hG
                    · obtain ⟨a, -, rfl⟩ := List.mem_map.mp hv
                      exact evV_cat r a
                    · unfold evL evS
                      simp [List.map_append, List.map_replicate]
                  rw [show bud = (bud - (mt mi').2.2.2) + (mt mi').2.2.2 by omega]
                  refine call_any hI hcal h8 hC ?_ ?_ ?_
                  · intro h0 E J hJ
                    obtain ⟨e, he', r', -, -, -, -, ho⟩ := hJ
                    rw [h0] at hinl
                    have := List.all_eq_true.mp (((Bool.or_eq_true _ _).mp hinl).resolve_left (by decide)) e he'
                    obtain ⟨q1, q2, q3⟩ := e
                    cases q2 with
                    | inl o => exact nomatch ho
                    | inr n => exact nomatch this
                  · intro E J hJ
                    obtain ⟨e, he', r', a1, a2, a3, a4, ho⟩ := hJ
                    obtain ⟨x, hx1, hx2⟩ := hall _ (List.mem_map.mpr ⟨_, he', rfl⟩)
                    obtain ⟨q1, q2, q3⟩ := e
                    cases q2 with
                    | inl o => exact nomatch ho
                    | inr n =>
                      cases hx1
                      rw [ho]
                      exact he _ (hx2 _ (List.mem_singleton.mpr rfl)) r' J (fun v hv => by rw [a1 v (by omega)]; exact ha v hv) a2 a3 a4
                  · intro v J hJ
                    obtain ⟨e, he', r', a1, a2, a3, a4, ho⟩ := hJ
                    obtain ⟨x, hx1, hx2⟩ := hall _ (List.mem_map.mpr ⟨_, he', rfl⟩)
                    obtain ⟨q1, q2, q3⟩ := e
                    have ha' : ∀ v, v < n0 → r' v = r0 v := fun v hv => by rw [a1 v (by omega)]; exact ha v hv
                    cases q2 with
                    | inr n => exact nomatch ho
                    | inl o =>
                      cases o with
                      | none =>
                        have ho : v = none := Sum.inl.inj ho
                        subst ho
                        have hg := goN_ok hT hx1 hcs' (k := k) hc hm (fun e he' => he e (hx2 e he')) r' J ha' a2 a3 a4
                        rw [show dd' + 1 + k = (dd' + k) + 1 by omega] at hg
                        have e4 : evL r' L = evL r L := evL_ok f1 a1
                        have e5 : evS r' rest = evS r rest := evS_ok f2 a1
                        simp only [e4, e5] at hg
                        exact hg
                      | some a =>
                        have ho : v = some (.int (evI r' a)) := Sum.inl.inj ho
                        subst ho
                        have hg := goN_ok hT hx1 hcs' (k := k) hc hm (fun e he' => he e (hx2 e he')) r' J ha' a2 a3 a4
                        rw [show dd' + 1 + k = (dd' + k) + 1 by omega] at hg
                        have e4 : evL r' L = evL r L := evL_ok f1 a1
                        have e5 : evS r' (.inl a :: rest) = .int (evI r' a) :: evS r rest := by
                          show Value.int (evI r' a) :: evS r' rest = _
                          rw [evS_ok f2 a1]
                        simp only [e4, e5] at hg
                        exact hg
                · cases h
              · cases h
            · cases h
        · cases h
    · split at h
      · rename_i ss es' hst
        split at h
        · rename_i x hx1
          cases h
          have hall := allO_ok hx1
          refine stp_ok hO hI rfl hret hst (fun q hq => ?_) (fun e he' => he e (List.mem_append_right _ he'))
          obtain ⟨y, hy1, hy2⟩ := hall q hq
          exact goN_ok hT hy1 hcs' (k := k) hc hm (fun e he' => he e (List.mem_append_left _ (hy2 e he')))
        · cases h
      · cases h
theorem run_ok (hO : hxOK hx X) (hmc : okMc mt mc) (hct : ∀ c ∈ cts, CtOK G hx X mt c) (n : Nat) : TrOK G hx X mt mc (run hx mt mc cts n) := by
  induction n with
  | zero => intro dd mi bud n0 cuts m0 pc cs s es h; cases h
  | succ n ih => exact runF_ok hO hmc hct ih
end RunOK
