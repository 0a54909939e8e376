/-! a method throws an exception that it makes -/
def zTh (own : String) (ik is ic : Nat) (cls text : String) (names : List String) : Prop := Bundle.fit cls = true ∧ (∀ n ∈ names, Bundle.fit n = true) ∧ Cond.classLink own ik cls ∈ WA ∧ Cond.initialized cls ∈ WA ∧ (∃ i, (own, is, text, i) ∈ zSR) ∧ (∀ w ∈ vx_atS own ic cls names, w ∈ WA ∨ w = .castable cls cls) ∧ cls ∈ zCs ∧ (∀ w ∈ Cond.classLink own ik cls :: Cond.initialized cls :: vx_atS own ic cls names, vx_ot w = true) ∧ names.length ≤ 4
theorem Rn.throwS {G : Gx} {Ga : List Shp} {Y : Ym} {d b pc ik is ic : Nat} {cls text : String} {names : List String} {ls : List (Option Value)} {I : Hi} {Q : Rs → Hi → Prop} (hT : zTh Y.1.cls ik is ic cls text names)
    (d0 : decode Y.2.1 pc = .ok (.new ik, 3)) (d3 : decode Y.2.1 (pc + 3) = .ok (.dup, 1)) (d4 : decode Y.2.1 (pc + 4) = .ok (.ldc is, 2)) (d6 : decode Y.2.1 (pc + 6) = .ok (.invokespecial ic, 3)) (d9 : decode Y.2.1 (pc + 9) = .ok (.athrow, 1))
    (h : Q (.inr cls) I) (hb : 1 ≤ b := by omega) : Rn G Ga Y (kM G Ga Q) d b pc ls [] I := by
  obtain ⟨t1, t2, t3, t4, ⟨i, t5⟩, t6, t9, t7, t8⟩ := hT
  intro p e R s m args below meth c H locs cells slots tc ts Z F hk lsA hl
  obtain ⟨F1, ⟨hP, hD, hS⟩, F3, F4, F5, F6, F7, F8⟩ := F
  obtain ⟨ht, rfl⟩ := hk
  have hts := F1.2.2.2.2.2.2.1
  have hK := F1.2.2.2.2.2.2.2
  exact vx_throwS (names := names) (rest := []) F1.1 F1.2.1 hK.2.2.2.2.2.2 F1.2.2.2.2.2.1 t1 t2 (hts _ t3) (hts _ t4) (hK.2.2.1 _ t5) (fun w hw => (t6 w hw).elim (hts w) (fun e => by rw [e]; exact va_Nw.use rfl (hK.2.2.2.2.2.1.1 _ t9))) t7 hK.2.2.2.1 hK.2.2.2.2.1 hS (hl.1.trans F1.2.2.1.symm) d0 d3 d4 d6 d9 (fun x hx => (ht x hx).elim)
    (by omega) (by simp; omega) (by omega) (by omega) F1.2.2.2.2.1
    (fun t _ h1 h2 => ⟨⟨I, h, fun k q hk => (hP k q hk).kept (h2 _ (hP k q hk).lt)⟩, Nat.le_trans hS.1 h1, fun q hq hA => by rw [h2 q (Nat.lt_of_lt_of_le hq hS.1)]; exact hS.2.1 q hq hA⟩) hS.2.2 (by omega) (by omega)
theorem Rn.throwSW {G : Gx} {Ga : List Shp} {Y : Ym} {d b pc ik is ic : Nat} {cls text : String} {names : List String} {ls : List (Option Value)} {I : Hi} {Q : Rs → Hi → Prop} (hT : zTh Y.1.cls ik is ic cls text names)
    (d0 : decode Y.2.1 pc = .ok (.new ik, 3)) (d3 : decode Y.2.1 (pc + 3) = .ok (.dup, 1)) (d4 : decode Y.2.1 (pc + 4) = .ok (.ldc_w is, 3)) (d6 : decode Y.2.1 (pc + 7) = .ok (.invokespecial ic, 3)) (d9 : decode Y.2.1 (pc + 10) = .ok (.athrow, 1))
    (h : Q (.inr cls) I) (hb : 1 ≤ b := by omega) : Rn G Ga Y (kM G Ga Q) d b pc ls [] I := by
  obtain ⟨t1, t2, t3, t4, ⟨i, t5⟩, t6, t9, t7, t8⟩ := hT
  intro p e R s m args below meth c H locs cells slots tc ts Z F hk lsA hl
  obtain ⟨F1, ⟨hP, hD, hS⟩, F3, F4, F5, F6, F7, F8⟩ := F
  obtain ⟨ht, rfl⟩ := hk
  have hts := F1.2.2.2.2.2.2.1
  have hK := F1.2.2.2.2.2.2.2
  exact vx_throwSW (names := names) (rest := []) F1.1 F1.2.1 hK.2.2.2.2.2.2 F1.2.2.2.2.2.1 t1 t2 (hts _ t3) (hts _ t4) (hK.2.2.1 _ t5) (fun w hw => (t6 w hw).elim (hts w) (fun e => by rw [e]; exact va_Nw.use rfl (hK.2.2.2.2.2.1.1 _ t9))) t7 hK.2.2.2.1 hK.2.2.2.2.1 hS (hl.1.trans F1.2.2.1.symm) d0 d3 d4 d6 d9 (fun x hx => (ht x hx).elim)
    (by omega) (by simp; omega) (by omega) (by omega) F1.2.2.2.2.1
    (fun t _ h1 h2 => ⟨⟨I, h, fun k q hk => (hP k q hk).kept (h2 _ (hP k q hk).lt)⟩, Nat.le_trans hS.1 h1, fun q hq hA => by rw [h2 q (Nat.lt_of_lt_of_le hq hS.1)]; exact hS.2.1 q hq hA⟩) hS.2.2 (by omega) (by omega)

theorem zsubt {L : List Cond} {E : String} (ix : List Nat) (h : L.all (fun w => ((ix.filterMap (fun i => lw_tbl[i]?)).any (fun v => decide (v = w)) && goodWord w) || decide (w = .castable E E)) = true) : ∀ w ∈ L, w ∈ WA ∨ w = .castable E E := by
  intro w hw
  have h1 := List.all_eq_true.mp h w hw
  simp only [Bool.or_eq_true, Bool.and_eq_true, decide_eq_true_eq] at h1
  rcases h1 with ⟨h1, h2⟩ | h1
  · obtain ⟨v, hv, he⟩ := List.any_eq_true.mp h1
    have he := of_decide_eq_true he
    subst he
    obtain ⟨i, -, hi⟩ := List.mem_filterMap.mp hv
    exact Or.inl (List.mem_filter.mpr ⟨List.mem_of_getElem? hi, h2⟩)
  · exact Or.inr h1
theorem zSR_mem {own : String} {is : Nat} {text : String} (h : zSR.any (fun r => decide (r.1 = own) && decide (r.2.1 = is) && decide (r.2.2.1 = text)) = true) : ∃ i, (own, is, text, i) ∈ zSR := by
  obtain ⟨r, hr, h2⟩ := List.any_eq_true.mp h
  simp only [Bool.and_eq_true, decide_eq_true_eq] at h2
  obtain ⟨a, b, c, e⟩ := r
  obtain ⟨⟨rfl, rfl⟩, rfl⟩ := h2
  exact ⟨e, hr⟩
/-! a method with handlers: its contract, its end, what its first handler catches -/
def zwW (y : Ym) (hh : List (Nat × Nat × Nat × Nat)) : List Cond := Cond.codeWith y.1 y.2.1 y.2.2.1 y.2.2.2 hh :: WA
def CtW (G : Gx) (Ga : List Shp) (y : Ym) (hh : List (Nat × Nat × Nat × Nat)) (d b : Nat) (vs : List Value) (I : Hi) (Q : Rs → Hi → Prop) : Prop :=
  ∀ sz : Nat, vx_Met (gL G) y.1 (zwW y hh) (zrm d b) (zPc G Ga vs I sz) (zQ G Ga Q sz) (zX G Ga Q sz) b (6 * b) (zA G Ga sz)
def kH (G : Gx) (Ga : List Shp) (Q : Rs → Hi → Prop) (hh : List (Nat × Nat × Nat × Nat)) : Kx := fun s args below c tc ts Z =>
  c.exceptionTable.toList = tableOf hh ∧ Z = vx_MQ below (zQ G Ga Q s.heap.size) (zX G Ga Q s.heap.size) args s tc ts (zA G Ga s.heap.size)
theorem CtW.mk {G : Gx} {Ga : List Shp} {y : Ym} {hh : List (Nat × Nat × Nat × Nat)} {d b : Nat} {vs : List Value} {I : Hi} {Q : Rs → Hi → Prop} (ls : List (Option Value)) (k : Rn G Ga y (kH G Ga Q hh) d b 0 ls [] I) (hy : plainName y.1.cls = true := by decide +kernel) (hc : vs.all (fun v => v.category == 1) = true := by rfl) (hn : vs.length ≤ y.2.2.1 := by exact Nat.le_of_ble_eq_true rfl)
    (hl : ls = vs.map some ++ List.replicate (y.2.2.1 - vs.length) none := by rfl) : CtW G Ga y hh d b vs I Q := by
  intro sz
  have hc' : ∀ v ∈ vs, v.category = 1 := fun v hv => by simpa using List.all_eq_true.mp hc v hv
  refine vx_ofWH (hh := hh) (cc := y.2.1) (maxL := y.2.2.1) (ret := y.2.2.2) hy rfl ?_
  intro p e s m args below meth c s₁ B hml hv
  obtain ⟨rfl, rfl, hP, hD, hK⟩ := hv
  have hts := atoms_spec (ws := zwW y hh) B.pre
  have ht := vx_table (x := y.1) B (hts _ List.mem_cons_self)
  have hown : s.vm.findClass y.1.cls = some m.cls := findClass_of_methodNamed B.named
  have hl9 := lv_entry (vs.map (zr (gad G))) (n := y.2.2.1) (by rw [lg_sl_len vs hc']; exact hn)
  rw [lg_entry_eq]
  have h9 := k p e (zrm d b) s m _ below meth c s.heap [] 0 0 b (6 * b) _ ⟨⟨B.exec, B.bytes, hml, B.returns, B.notSynchronized, hown, fun w hw => hts w (List.mem_cons_of_mem _ hw), hK⟩, ⟨hP, hD, va_S.rf⟩, Nat.le_refl _, Nat.le_refl _, by omega, by omega, Nat.le_refl _, Nat.le_refl _, (name_of_methodNamed B.named B.method).1⟩ ⟨ht, rfl⟩ _ (by rw [hl, zl_args vs 0 _ hc']; exact hl9)
  exact h9
section Hand
variable {G : Gx} {Ga : List Shp} {Y : Ym} {d b pc pc' : Nat} {ls : List (Option Value)} {st : List Value} {I : Hi} {hh : List (Nat × Nat × Nat × Nat)} {Q : Rs → Hi → Prop} {kx : Kx}
theorem Rn.hret {v : Int32} (hd : decode Y.2.1 pc = .ok (.ireturn, 1)) (hr : Y.2.2.2 = some .int) (h : Q (.inl (some (.int v))) I) : Rn G Ga Y (kH G Ga Q hh) d b pc ls [.int v] I := by
  intro p e R s m args below meth c H locs cells slots tc ts Z F hk lsA hl
  obtain ⟨F1, ⟨hP, hD, hS⟩, F3, F4, F5, F6, F7, F8⟩ := F
  obtain ⟨ht, rfl⟩ := hk
  refine W.widen (k := tc) (n := ts) (by omega) (by omega) (vx_ret ?_)
  have hlocks : meth.locks = false := F1.2.2.2.2.1
  exact W.iret F1.1 F1.2.1 (F1.2.2.2.1.trans hr) (fun t h1 _ => ⟨⟨some (.int v), I, rfl, h, by rw [h1]; exact hP⟩, by rw [h1]; exact hS.1, by rw [h1]; exact hS.2.1⟩) hS.2.2 hd hlocks
/-- the first handler takes it: astore, a constant, ireturn -/
theorem zcatch {x : Nat × Nat × Nat × Nat} {hs : List (Nat × Nat × Nat × Nat)} {E : String} {J : Hi} {i n2 : Nat} {ci : Int} {cv : Int32} {rest : List Value} (hx : covers (⟨x.1, x.2.1, x.2.2.1, x.2.2.2⟩ : ExceptionTableEntry) pc = true) (hk : Cond.classLink Y.1.cls x.2.2.2 E ∈ WA) (hE : E ∈ zCs) (h0 : x.2.2.2 ≠ 0)
    (ha : (∃ q : Fin 4, decode Y.2.1 x.2.2.1 = .ok (.astore_n q, n2) ∧ (q : Nat) = i ∧ n2 = 1) ∨ (decode Y.2.1 x.2.2.1 = .ok (.astore i, n2) ∧ n2 = 2)) (hi : i < Y.2.2.1) (hc : decode Y.2.1 (x.2.2.1 + n2) = .ok (.iconst ci, 1)) (hcv : Int32.ofInt ci = cv) (hd : decode Y.2.1 (x.2.2.1 + n2 + 1) = .ok (.ireturn, 1)) (hr : Y.2.2.2 = some .int) (h : Q (.inl (some (.int cv))) J) :
    ∀ (p : Program) (e : Env) (R : Room) (s : State) (m : MethodId) (args : Array Value) (below : List Frame) (meth : Method) (c : Code) (H : Heap) (locs : List Loc) (cells slots tc ts : Nat) (Z : State → Prop) (q : Addr) (ce : Cell) (lsA : Array Slot), zFr G Ga Y d b J p R s m args meth c H locs cells slots tc ts → kH G Ga Q (x :: hs) s args below c tc ts Z → lv_has lsA Y.2.2.1 (zl (gad G) 0 ls) → H[q]? = some ce → ce.vm = .none → s.vm.findClass E = some ce.cls → vx_W p (gL G) e R s m args below meth c H locs cells slots Z (F0 m pc lsA (rest.map (zr (gad G)))) q := by
  intro p e R s m args below meth c H locs cells slots tc ts Z q ce lsA F hk9 hl h1 h2 h3
  obtain ⟨F1, ⟨hP, hD, hS⟩, F3, F4, F5, F6, F7, F8⟩ := F
  obtain ⟨ht, rfl⟩ := hk9
  have hts := F1.2.2.2.2.2.2.1
  have hlocks : meth.locks = false := F1.2.2.2.2.1
  have htab : c.exceptionTable.toList = [] ++ (⟨x.1, x.2.1, x.2.2.1, x.2.2.2⟩ : ExceptionTableEntry) :: tableOf hs := by rw [ht]; rfl
  refine vx_catch (name := E) (E := E) F1.2.2.2.2.2.1 [] (⟨x.1, x.2.1, x.2.2.1, x.2.2.2⟩ : ExceptionTableEntry) (tableOf hs) htab (fun z hz => nomatch hz) hx h0 (hts _ hk) (va_Nw.use rfl (F1.2.2.2.2.2.2.2.2.2.2.2.2.1.1 _ hE)) h1 h2 h3 ?_
  show W p (gL G) e R s m args below meth c H locs cells slots _ (F0 m x.2.2.1 lsA [.ref q])
  have end9 : ∀ lsB : Array Slot, W p (gL G) e R s m args below meth c H locs cells slots (vx_MQ below (zQ G Ga Q s.heap.size) (zX G Ga Q s.heap.size) args s tc ts (zA G Ga s.heap.size)) (F0 m (x.2.2.1 + n2) lsB []) := by
    intro lsB
    refine lv_iconst F1.1 F1.2.1 hc hcv ?_
    refine W.widen (k := tc) (n := ts) (by omega) (by omega) (vx_ret ?_)
    exact W.iret F1.1 F1.2.1 (F1.2.2.2.1.trans hr) (fun t h1 _ => ⟨⟨some (.int cv), J, rfl, h, by rw [h1]; exact hP⟩, by rw [h1]; exact hS.1, by rw [h1]; exact hS.2.1⟩) hS.2.2 hd hlocks
  rcases ha with ⟨q4, ha, hq, hn⟩ | ⟨ha, hn⟩
  · subst hn
    exact lv_astore_n F1.1 F1.2.1 ha hq hl hi rfl (fun lsB _ => end9 lsB)
  · subst hn
    exact lv_astore F1.1 F1.2.1 ha hl hi rfl (fun lsB _ => end9 lsB)
/-- a call of a method with handlers, which throws nothing itself -/
def zMw (own : String) (idx : Nat) (y : Ym) (hh : List (Nat × Nat × Nat × Nat)) (n : Nat) : Prop := Cond.methodLink own idx y.1 ∈ WA ∧ Cond.initialized y.1.cls ∈ WA ∧ Cond.codeWith y.1 y.2.1 y.2.2.1 y.2.2.2 hh ∈ WA ∧ y.2.2.1 ≤ 21 ∧ (y.1.cls ≠ "java/lang/invoke/MethodHandle" ∧ y.1.cls ≠ "java/lang/invoke/VarHandle" ∧ (parseMethodDescriptor y.1.desc).map (fun q => q.parameters.length) = some n) ∧ Cond.static y.1 ∈ WA
theorem Rn.callW {idx n mc : Nat} {As rest : List Value} {y : Ym} {Rr : Rs → Hi → Prop} (hd : decode Y.2.1 pc = .ok (.invokestatic idx, 3)) (hM : zMw Y.1.cls idx y hh n)
    (hst : st = As.reverse ++ rest) (hn : As.length = n) (hr : (rest.map fun v => v.category).sum ≤ 8) (hct : CtW G Ga y hh d mc As I Rr) (hx : ∀ (E : String) (J : Hi), ¬ Rr (.inr E) J)
    (k : ∀ (v : Option Value) (J : Hi), Rr (.inl v) J → Rn G Ga Y kx (d + 1) b pc' ls (v.toList ++ rest) J) (hp : pc + 3 = pc' := by rfl) : Rn G Ga Y kx (d + 1) (b + mc) pc ls st I := by
  subst hp
  subst hst
  intro p e R s m args below meth c H locs cells slots tc ts Z F hk lsA hl
  have F0' := F
  obtain ⟨F1, ⟨hP, hD, hS⟩, F3, F4, F5, F6, F7, F8⟩ := F
  have hts := F1.2.2.2.2.2.2.1
  have hw : ∀ w ∈ WA, w ∈ WA ∧ ((w.onTables && w.keeps) = true ∨ ∃ ty, w = .arrayClass ty) := fun w hw => ⟨hw, good_of_word (List.mem_filter.mp hw).2⟩
  have hgood : GoodIn WA (va_wsS Y.1.cls idx y.1 (zwW y hh)) := by
    intro w h2
    simp only [va_wsS, List.mem_append, List.mem_cons, List.not_mem_nil, or_false, zwW] at h2
    rcases h2 with (h2 | h2 | h2) | h2 | h2
    all_goals first | (rw [h2]; exact hw _ hM.1) | (rw [h2]; exact hw _ hM.2.1) | (rw [h2]; exact hw _ hM.2.2.2.2.2) | (rw [h2]; exact hw _ hM.2.2.1) | exact hw _ h2
  have run := vx_runSX (hh := hh) (g := F0 m pc lsA ((As.reverse ++ rest).map (zr (gad G)))) (As := As.map (zr (gad G))) (rest := rest.map (zr (gad G))) (cells := cells) (slots := slots) (locs := locs) (e := e) (below := below) (meth := meth) ⟨F1.1, F1.2.1, F1.2.2.1, F1.2.2.2.2.2.1, hts⟩ (hct H.size)
    (vx_cwSW n hts hgood rfl rfl rfl hM.2.2.2.2.1 ⟨by show d + 8 + 1 ≤ _; omega, by have := hM.2.2.2.1; show 8 + (y.2.2.1 + 11) + (40 * d + 200) ≤ _; omega⟩)
    ⟨zPc_blind, fun U hU hW => zpre F0' U hU hW⟩ rfl (by rw [List.length_map]; exact hn) hl.1 (by simp [zr, List.map_reverse]) (lv_room (by rw [zsum]; exact hr)) hd ⟨by omega, by omega⟩
  exact zafter F0' hk hl run (fun E J hE => absurd hE (hx E J)) k
end Hand
