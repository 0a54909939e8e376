theorem zmemL {α : Type} (f : α → Cond) : ∀ (l : List α) (ix : List Nat), (l.length == ix.length && (l.zip ix).all (fun q => decide (lw_tbl[q.2]? = some (f q.1)))) = true → ∀ r ∈ l, f r ∈ lw_tbl
  | [], _, _, r, hr => nomatch hr
  | a :: l, [], h, _, _ => nomatch h
  | a :: l, i :: ix, h, r, hr => by
    simp only [List.length_cons, List.zip_cons_cons, List.all_cons, Bool.and_eq_true, beq_iff_eq, decide_eq_true_eq, Nat.add_right_cancel_iff] at h
    rcases List.mem_cons.mp hr with rfl | hr
    · exact List.mem_of_getElem? h.2.1
    · exact zmemL f l ix (by simp only [Bool.and_eq_true, beq_iff_eq]; exact ⟨h.1, h.2.2⟩) r hr
theorem st_nl : ∀ r ∈ zNl, Cond.fieldLinkNest r.1 r.2.1 r.2.2.1 r.2.2.2.1 r.2.2.2.2.1 r.2.2.2.2.2 ∈ lw_tbl := zmemL (fun r : String × Nat × String × String × String × String => Cond.fieldLinkNest r.1 r.2.1 r.2.2.1 r.2.2.2.1 r.2.2.2.2.1 r.2.2.2.2.2) zNl [141, 144, 146, 148, 151, 175, 176, 177, 179, 180, 181, 182, 184, 186, 187, 188, 190, 191, 193, 194, 195, 197, 199, 242, 268, 318, 352] (by decide +kernel)
theorem st_nm : ∀ r ∈ zNm, Cond.methodLinkNest r.1 r.2.1 r.2.2.1 r.2.2.2 ∈ lw_tbl := zmemL (fun r : String × Nat × MethodName × String => Cond.methodLinkNest r.1 r.2.1 r.2.2.1 r.2.2.2) zNm [136, 170, 231, 237, 273, 349] (by decide +kernel)
theorem st_dc : ∀ r ∈ zDc, Cond.declares r ∈ lw_tbl := zmemL (fun r : MethodName => Cond.declares r) zDc [555, 578, 676, 677, 678, 679, 680, 681] (by decide +kernel)
theorem st_cs : ∀ r ∈ zCs, Cond.castable r r ∈ lw_tbl := zmemL (fun r : String => Cond.castable r r) zCs [675, 745, 788, 805, 898] (by decide +kernel)
theorem st_sr : ∀ r ∈ zSR, Cond.stringRef r.1 r.2.1 r.2.2.1 ∈ lw_tbl := zmemL (fun r : String × Nat × String × Nat => Cond.stringRef r.1 r.2.1 r.2.2.1) zSR [1389, 1465, 1470, 1475, 1476, 1488, 1489, 1490, 1491, 1492, 1493, 1494, 1499, 1500, 1501, 1502, 1519, 1528, 1541, 1542, 1543, 1544, 1545, 716, 752, 795, 812, 830, 832, 881, 891, 905, 925, 953, 963, 971, 987, 1023, 1063, 1086, 1111, 1174, 1200, 1229, 1252] (by decide +kernel)
theorem st_ao : Cond.arrayOver (.object "BorrowedLuck$Coast") ∈ lw_tbl := List.mem_of_getElem? (i := 348) (by decide +kernel)
theorem st_l1 : Cond.laysStatic Bundle.tN "UNASSIGNED_STACK" Bundle.steD ∈ lw_tbl := List.mem_of_getElem? (i := 700) (by decide +kernel)
theorem st_l2 : Cond.laysStatic Bundle.tN "SUPPRESSED_SENTINEL" Bundle.listD ∈ lw_tbl := List.mem_of_getElem? (i := 702) (by decide +kernel)
theorem st_it : Cond.initialized Bundle.tN ∈ lw_tbl := List.mem_of_getElem? (i := 113) (by decide +kernel)
theorem st_own : ∀ r ∈ zSR, r.1 = RX9 ∨ r.1 = RX10 := by decide +kernel
theorem st_one : ∀ r ∈ zSR, ∀ q ∈ zSR, r.2.2.2 = q.2.2.2 → r = q := by decide +kernel
theorem st_998 : ∀ r ∈ zSR, r.2.2.2 ≠ 998 := by decide +kernel
theorem start_G {p : Program} {s : State} {m : MethodId} {meth : Method} {c : Code} (l : Launch) (hl : l.stackTraces = false) {b L : Nat} {xs : Nat → Int32} (C0 : lw_At p s m meth c b L xs) : ∃ G0 : Gx, gL G0 = l ∧ gad G0 998 = b ∧ zK G0 (zA G0 [] s.heap.size) s s.heap := by
  obtain ⟨-, -, -, -, -, hts, hX, hbl, -, hgv⟩ := C0
  have hwa : ∀ w ∈ WA, w.before #[Value.ref b] s = true := fun w hw => hts w (List.mem_filter.mp hw).1
  have hex : ∀ k : Nat, ∃ ci : ClassId × (Nat → Nat), ∀ q : vw_C, vwCl[k]? = some q → u_Kn s q.1 q.2.1 q.2.2 ci.1 ci.2 := by
    intro k
    match k with
    | 0 =>
      obtain ⟨cC, iS, h⟩ := u_known (C := RX0) (T := TX0) (N := 12) (n := 12) hwa uw_X0 (hwa _ wi_169)
      exact ⟨(cC, iS), fun q hq => by cases hq; exact h⟩
    | 1 =>
      obtain ⟨cC, iS, h⟩ := u_known (C := RX1) (T := TX1) (N := 3) (n := 3) hwa uw_X1 (hwa _ wi_275)
      exact ⟨(cC, iS), fun q hq => by cases hq; exact h⟩
    | 2 =>
      obtain ⟨cC, iS, h⟩ := u_known (C := RX2) (T := TX2) (N := 8) (n := 8) hwa uw_X2 (hwa _ wi_236)
      exact ⟨(cC, iS), fun q hq => by cases hq; exact h⟩
    | 3 =>
      obtain ⟨cC, iS, h⟩ := u_known (C := RX3) (T := TX3) (N := 3) (n := 3) hwa uw_X3 (hwa _ wi_298)
      exact ⟨(cC, iS), fun q hq => by cases hq; exact h⟩
    | 4 =>
      obtain ⟨cC, iS, h⟩ := u_known (C := RX5) (T := TX5) (N := 3) (n := 3) hwa uw_X5 (hwa _ wi_342)
      exact ⟨(cC, iS), fun q hq => by cases hq; exact h⟩
    | 5 =>
      obtain ⟨cC, iS, h⟩ := u_known (C := RX6) (T := TX6) (N := 1) (n := 1) hwa uw_X6 (hwa _ wi_230)
      exact ⟨(cC, iS), fun q hq => by cases hq; exact h⟩
    | 6 =>
      obtain ⟨cC, iS, h⟩ := u_known (C := RX7) (T := TX7) (N := 8) (n := 8) hwa uw_X7 (hwa _ wi_310)
      exact ⟨(cC, iS), fun q hq => by cases hq; exact h⟩
    | 7 =>
      obtain ⟨cC, iS, h⟩ := u_known (C := RX8) (T := TX8) (N := 7) (n := 7) hwa uw_X8 (hwa _ wi_135)
      exact ⟨(cC, iS), fun q hq => by cases hq; exact h⟩
    | 8 =>
      obtain ⟨cC, iS, h⟩ := u_known (C := RX9) (T := TX9) (N := 13) (n := 13) hwa uw_X9 (hwa _ wi_127)
      exact ⟨(cC, iS), fun q hq => by cases hq; exact h⟩
    | 9 =>
      obtain ⟨cC, iS, h⟩ := u_known (C := RX10) (T := TX10) (N := 23) (n := 23) hwa uw_X10 (hwa _ wi_1258)
      exact ⟨(cC, iS), fun q hq => by cases hq; exact h⟩
    | k + 10 => exact ⟨(0, fun _ => 0), fun q hq => by simp [vwCl] at hq⟩
  obtain ⟨D, hD⟩ := Classical.axiomOfChoice hex
  have hfc : ∀ r ∈ zSR, ∃ cu, s.vm.findClass r.1 = some cu := by
    intro r hr
    rcases st_own r hr with h | h
    · exact ⟨_, by rw [h]; exact (hD 8 _ rfl).2.1⟩
    · exact ⟨_, by rw [h]; exact (hD 9 _ rfl).2.1⟩
  have hst : ∀ k : Nat, ∃ a : Nat, ∀ r ∈ zSR, r.2.2.2 = k → vk_R r.1 r.2.1 r.2.2.1 a s := by
    intro k
    by_cases h : ∃ r, r ∈ zSR ∧ r.2.2.2 = k
    · obtain ⟨r, hr, hk⟩ := h
      obtain ⟨cu, hcu⟩ := hfc r hr
      have h1 := hts _ (st_sr r hr)
      obtain ⟨_, _, _, a, -, -, -, -, -, hev⟩ := Cond.stringRef_spec (args := #[Value.ref b]) (first := s) (o := none) (idx := []) hcu h1
      refine ⟨a, fun q hq hqk => ?_⟩
      obtain rfl := st_one r hr q hq (hk.trans hqk.symm)
      exact vk_R.of h1 hev
    · exact ⟨0, fun r hr hk => absurd ⟨r, hr, hk⟩ h⟩
  obtain ⟨S, hS⟩ := Classical.axiomOfChoice hst
  obtain ⟨cI, kI, oI, i1, i2, i3⟩ := Cond.arrayClass_spec (hwa _ wi_167)
  obtain ⟨cB, kB, oB, b1, b2, b3⟩ := Cond.arrayClass_spec (hwa _ wi_742)
  obtain ⟨cL, kL', oL, l1, l2, l3⟩ := Cond.arrayClass_spec (hwa _ wi_1932)
  obtain ⟨oQ, cQ, kQ, q1, q2, q3, q4, q5⟩ := Cond.arrayOver_spec (hts _ st_ao)
  have hs := flat_of_before _ hgv
  have hr1 : (Cond.isRef (.static Bundle.tN "UNASSIGNED_STACK" Bundle.steD)).before #[Value.ref b] s = true := hs _ (by decide +kernel)
  have hr2 : (Cond.isRef (.static Bundle.tN "SUPPRESSED_SENTINEL" Bundle.listD)).before #[Value.ref b] s = true := hs _ (by decide +kernel)
  obtain ⟨dA, e1, e2, e3, e4⟩ : ∃ dA : FieldType → ClassId, dA .int = cI ∧ dA .byte = cB ∧ dA .long = cL ∧ dA (.object "BorrowedLuck$Coast") = cQ := ⟨fun ty => match ty with | .int => cI | .byte => cB | .long => cL | .object _ => cQ | _ => 0, rfl, rfl, rfl, rfl⟩
  have hty : ∀ (k : Nat) (q : ClassId × FieldType), (ztys dA)[k]? = some q → ArrOfT s q.1 q.2 ∧ va_RA s q.1 q.2 := by
    intro k q hq
    match k, hq with
    | 0, hq => cases hq; exact ⟨fun n z => ⟨fun k h => (by cases h), kI, by rw [e1]; exact i2, oI, i3⟩, by rw [e1]; exact i1⟩
    | 1, hq => cases hq; exact ⟨fun n z => ⟨fun k h => (by cases h), kB, by rw [e2]; exact b2, oB, b3⟩, by rw [e2]; exact b1⟩
    | 2, hq => cases hq; exact ⟨fun n z => ⟨fun k h => (by cases h), kL', by rw [e3]; exact l2, oL, l3⟩, by rw [e3]; exact l1⟩
    | 3, hq => cases hq; exact ⟨fun n z => ⟨fun k h => (by cases h), kQ, by rw [e4]; exact q3, oQ, q4⟩, by rw [e4]; exact ⟨kQ, oQ, q3, q4, q1, q5⟩⟩
    | k + 4, hq => simp [ztys] at hq
  generalize hG : ((l, fun k => (D k).1, fun k => (D k).2, fun k => if k = 998 then b else S k, dA, fun _ => 0) : Gx) = G0
  have hA : ∀ a : Nat, a < s.heap.size → ¬ zA G0 [] s.heap.size a := by
    rintro a ha (⟨k, hk, -⟩ | h)
    · exact absurd hk (by simp)
    · omega
  subst hG
  refine ⟨_, rfl, rfl, ⟨fun k q hq => hD k q hq, hty⟩, fun r hr => va_Nw.of rfl (hts _ (st_nl r hr)), fun r hr => ?_, vx_Zqof (hts _ st_l1) (hts _ st_it) hr1 hA, vx_Zqof (hts _ st_l2) (hts _ st_it) hr2 hA, ⟨fun r hr => va_Nw.of rfl (hts _ (st_cs r hr)), fun r hr => va_Nw.of rfl (hts _ (st_nm r hr)), fun r hr => va_Nw.of rfl (hts _ (st_dc r hr)), va_AO.of (hts _ st_ao)⟩, hl⟩
  show vk_R r.1 r.2.1 r.2.2.1 (if r.2.2.2 = 998 then b else S r.2.2.2) s
  rw [if_neg (st_998 r hr)]
  exact hS _ r hr rfl
def LawCases : Prop := ∀ (G0 : Gx) (b0 : Nat) (xs : Nat → Int32), gad G0 998 = b0 → ∀ ad, Rn (gw G0 ad) GAM mL_law_ (kZ (kL b0 6 xs) G0 0 ad 108) 20 400000 40 [some (.ref 998), some (.ref 0), some (.ref 94), some (.ref 107), some (.int (nI 0)), none, none] [.int (xs 0 &&& nI 63)] I0
theorem start_of (hcases : LawCases) {p : Program} {e : Env} {s : State} {m : MethodId} {below : List Frame} {meth : Method} {c : Code} (l : Launch) (hl : l.stackTraces = false) {b L : Nat} {xs : Nat → Int32} (hL : L ≤ 6) (hnm : meth.name = "law") (C0 : lw_At p s m meth c b L xs) : W p l e room_1 s m #[Value.ref b] below meth c s.heap [] 0 0 (lw_Z below #[Value.ref b] s) (entryFrame m ([Value.ref b] : List Value).toArray 7) := by
  obtain ⟨G0, g1, g2, hK⟩ := start_G l hl C0
  obtain ⟨hx, hb, hr, hml, hown, hts, hX, hbl, hlocks, hgv⟩ := C0
  have hwa : ∀ w ∈ WA, w.before #[Value.ref b] s = true := fun w hw => hts w (List.mem_filter.mp hw).1
  have k := law_start (L := L) (xs := xs) g2 (gad G0) hL (fun h6 ad => hcases G0 b xs g2 ad)
  have hl9 := lv_entry ([Value.ref b]) (n := 7) (Nat.le_of_ble_eq_true rfl)
  rw [lg_entry_eq]
  subst g1
  have h9 := k p e room_1 s m #[Value.ref b] below meth c s.heap [] 0 0 600002 7302232 (lw_Z below #[Value.ref b] s) ⟨⟨hx, hb, hml, hr, hlocks, hown, hwa, hK⟩, ⟨fun k q h => by simp [zws] at h, ⟨fun i j p q h => by simp [zws] at h, fun k q h => by simp [zws] at h⟩, va_S.rf⟩, by decide, by decide, by decide, by decide, by decide, by decide, hnm⟩ ⟨⟨rfl, rfl, rfl, rfl, hX, hbl⟩, fun k _ => rfl, fun k _ h => absurd h (by omega), Nat.le_refl _, by decide⟩ _ (by
    show lv_has _ 7 [(0, Value.ref (gad G0 998))]
    rw [g2]; exact hl9)
  exact h9
