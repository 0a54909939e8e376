def zTi (own : String) (ik is ic : Nat) (cls text : String) (names : List String) : Prop := Bundle.fit cls = true ∧ (∀ n ∈ names, Bundle.fit n = true) ∧ Cond.classLink own ik cls ∈ WA ∧ Cond.initialized cls ∈ WA ∧ (∃ i, (own, is, text, i) ∈ zSR) ∧ (∀ w ∈ vx_atS own ic cls names, w ∈ WA ∨ w = .castable cls cls ∨ ∃ x ∈ zDc, w = .declares x) ∧ cls ∈ zCs ∧ (∀ w ∈ Cond.classLink own ik cls :: Cond.initialized cls :: vx_atS own ic cls names, vx_ot w = true) ∧ names.length ≤ 4
theorem Rn.throwT {G : Gx} {Ga : List Shp} {Y : Ym} {d b pc ik is ic : Nat} {cls text : String} {names : List String} {ls : List (Option Value)} {I : Hi} {Q : Rs → Hi → Prop} (hT : zTi Y.1.cls ik is ic cls text names)
    (d0 : decode Y.2.1 pc = .ok (.new ik, 3)) (d3 : decode Y.2.1 (pc + 3) = .ok (.dup, 1)) (d4 : decode Y.2.1 (pc + 4) = .ok (.ldc is, 2)) (d6 : decode Y.2.1 (pc + 6) = .ok (.invokespecial ic, 3)) (d9 : decode Y.2.1 (pc + 9) = .ok (.athrow, 1))
    (h : Q (.inr cls) I) (hb : 1 ≤ b := by omega) : Rn G Ga Y (kM G Ga Q) d b pc ls [] I := by
  obtain ⟨t1, t2, t3, t4, ⟨i, t5⟩, t6, t9, t7, t8⟩ := hT
  intro p e R s m args below meth c H locs cells slots tc ts Z F hk lsA hl
  obtain ⟨F1, ⟨hP, hD, hS⟩, F3, F4, F5, F6, F7, F8⟩ := F
  obtain ⟨ht, rfl⟩ := hk
  have hts := F1.2.2.2.2.2.2.1
  have hK := F1.2.2.2.2.2.2.2
  exact vx_throwS (names := names) (rest := []) F1.1 F1.2.1 hK.2.2.2.2.2.2 F1.2.2.2.2.2.1 t1 t2 (hts _ t3) (hts _ t4) (hK.2.2.1 _ t5) (fun w hw => (t6 w hw).elim (hts w) (fun e => e.elim (fun e => by rw [e]; exact va_Nw.use rfl (hK.2.2.2.2.2.1.1 _ t9)) (fun ⟨x, hx, e⟩ => by rw [e]; exact va_Nw.use rfl (hK.2.2.2.2.2.1.2.2.1 x hx)))) t7 hK.2.2.2.1 hK.2.2.2.2.1 hS (hl.1.trans F1.2.2.1.symm) d0 d3 d4 d6 d9 (fun x hx => (ht x hx).elim)
    (by omega) (by simp; omega) (by omega) (by omega) F1.2.2.2.2.1
    (fun t _ h1 h2 => ⟨⟨I, h, fun k q hk => (hP k q hk).kept (h2 _ (hP k q hk).lt)⟩, Nat.le_trans hS.1 h1, fun q hq hA => by rw [h2 q (Nat.lt_of_lt_of_le hq hS.1)]; exact hS.2.1 q hq hA⟩) hS.2.2 (by omega) (by omega)
theorem Rn.throwTW {G : Gx} {Ga : List Shp} {Y : Ym} {d b pc ik is ic : Nat} {cls text : String} {names : List String} {ls : List (Option Value)} {I : Hi} {Q : Rs → Hi → Prop} (hT : zTi Y.1.cls ik is ic cls text names)
    (d0 : decode Y.2.1 pc = .ok (.new ik, 3)) (d3 : decode Y.2.1 (pc + 3) = .ok (.dup, 1)) (d4 : decode Y.2.1 (pc + 4) = .ok (.ldc_w is, 3)) (d6 : decode Y.2.1 (pc + 7) = .ok (.invokespecial ic, 3)) (d9 : decode Y.2.1 (pc + 10) = .ok (.athrow, 1))
    (h : Q (.inr cls) I) (hb : 1 ≤ b := by omega) : Rn G Ga Y (kM G Ga Q) d b pc ls [] I := by
  obtain ⟨t1, t2, t3, t4, ⟨i, t5⟩, t6, t9, t7, t8⟩ := hT
  intro p e R s m args below meth c H locs cells slots tc ts Z F hk lsA hl
  obtain ⟨F1, ⟨hP, hD, hS⟩, F3, F4, F5, F6, F7, F8⟩ := F
  obtain ⟨ht, rfl⟩ := hk
  have hts := F1.2.2.2.2.2.2.1
  have hK := F1.2.2.2.2.2.2.2
  exact vx_throwSW (names := names) (rest := []) F1.1 F1.2.1 hK.2.2.2.2.2.2 F1.2.2.2.2.2.1 t1 t2 (hts _ t3) (hts _ t4) (hK.2.2.1 _ t5) (fun w hw => (t6 w hw).elim (hts w) (fun e => e.elim (fun e => by rw [e]; exact va_Nw.use rfl (hK.2.2.2.2.2.1.1 _ t9)) (fun ⟨x, hx, e⟩ => by rw [e]; exact va_Nw.use rfl (hK.2.2.2.2.2.1.2.2.1 x hx)))) t7 hK.2.2.2.1 hK.2.2.2.2.1 hS (hl.1.trans F1.2.2.1.symm) d0 d3 d4 d6 d9 (fun x hx => (ht x hx).elim)
    (by omega) (by simp; omega) (by omega) (by omega) F1.2.2.2.2.1
    (fun t _ h1 h2 => ⟨⟨I, h, fun k q hk => (hP k q hk).kept (h2 _ (hP k q hk).lt)⟩, Nat.le_trans hS.1 h1, fun q hq hA => by rw [h2 q (Nat.lt_of_lt_of_le hq hS.1)]; exact hS.2.1 q hq hA⟩) hS.2.2 (by omega) (by omega)

theorem zsubu {L : List Cond} {E : String} (ix : List Nat) (h : L.all (fun w => ((ix.filterMap (fun i => lw_tbl[i]?)).any (fun v => decide (v = w)) && goodWord w) || (decide (w = .castable E E) || zDc.any (fun x => decide (w = .declares x)))) = true) : ∀ w ∈ L, w ∈ WA ∨ w = .castable E E ∨ ∃ x ∈ zDc, w = .declares x := by
  intro w hw
  have h1 := List.all_eq_true.mp h w hw
  simp only [Bool.or_eq_true, Bool.and_eq_true, decide_eq_true_eq] at h1
  rcases h1 with ⟨h1, h2⟩ | h1 | h1
  · obtain ⟨v, hv, he⟩ := List.any_eq_true.mp h1
    have he := of_decide_eq_true he
    subst he
    obtain ⟨i, -, hi⟩ := List.mem_filterMap.mp hv
    exact Or.inl (List.mem_filter.mpr ⟨List.mem_of_getElem? hi, h2⟩)
  · exact Or.inr (Or.inl h1)
  · obtain ⟨x, hx, he⟩ := List.any_eq_true.mp h1
    exact Or.inr (Or.inr ⟨x, hx, of_decide_eq_true he⟩)
