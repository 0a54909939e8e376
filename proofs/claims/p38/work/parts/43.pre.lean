def Rx (E : String) (J : Hi) : Rs → Hi → Prop := fun o K => o = .inr E ∧ K = J
theorem Rn.callWp {G : Gx} {Ga : List Shp} {Y : Ym} {kx : Kx} {d b pc pc' : Nat} {ls : List (Option Value)} {st : List Value} {I : Hi} {hh : List (Nat × Nat × Nat × Nat)} {idx n mc : Nat} {As rest : List Value} {y : Ym} {v : Option Value} {J : Hi} (hd : decode Y.2.1 pc = .ok (.invokestatic idx, 3)) (hM : zMw Y.1.cls idx y hh n)
    (hst : st = As.reverse ++ rest) (hn : As.length = n) (hr : (rest.map fun v => v.category).sum ≤ 8) (hct : CtW G Ga y hh d mc As I (Rp v J))
    (k : Rn G Ga Y kx (d + 1) b pc' ls (v.toList ++ rest) J) (hp : pc + 3 = pc' := by rfl) : Rn G Ga Y kx (d + 1) (b + mc) pc ls st I :=
  Rn.callW hd hM hst hn hr hct (fun E J h => nomatch h.1) (fun w K h => by obtain ⟨h1, h2⟩ := h; cases h1; cases h2; exact k) hp
theorem Rn.ldc_w {G : Gx} {Ga : List Shp} {Y : Ym} {kx : Kx} {d b pc pc' : Nat} {ls : List (Option Value)} {st : List Value} {I : Hi} {idx : Nat} {v : Int32} (hd : decode Y.2.1 pc = .ok (.ldc_w idx, 3)) (hw : Cond.constant Y.1.cls idx v ∈ WA) (k : Rn G Ga Y kx d b pc' ls (.int v :: st) I) (hp : pc + 3 = pc' := by rfl) : Rn G Ga Y kx d b pc ls st I := by
  subst hp
  intro p e R s m args below meth c H locs cells slots tc ts Z F hk lsA hl
  exact lv_ldcw F.1.1 F.1.2.1 F.1.2.2.2.2.2.1 (F.1.2.2.2.2.2.2.1 _ hw) hd (k p e R s m args below meth c H locs cells slots tc ts Z F hk lsA hl)
/-! a call of an inherited method -/
def zMu (own : String) (idx : Nat) (C : String) (y : Ym) (n : Nat) : Prop := (∀ w ∈ va_wsU own idx C y.1.cls ⟨C, y.1.name, y.1.desc⟩ y.1 ([] : List Cond), w ∈ WA) ∧ Cond.code y.1 y.2.1 y.2.2.1 y.2.2.2 ∈ WA ∧ y.2.2.1 ≤ 21 ∧ (y.1.cls ≠ "java/lang/invoke/MethodHandle" ∧ y.1.cls ≠ "java/lang/invoke/VarHandle" ∧ (parseMethodDescriptor y.1.desc).map (fun q => q.parameters.length) = some n)
theorem Ct.met {G : Gx} {Ga : List Shp} {y : Ym} {d b : Nat} {vs : List Value} {I : Hi} {Q : Rs → Hi → Prop} (h : Ct G Ga y d b vs I Q) (hx : ∀ E J, ¬ Q (.inr E) J) (sz : Nat) : Met (gL G) y.1 (zwy y) (zrm d b) (zPc G Ga vs I sz) (zQ G Ga Q sz) b (6 * b) (zA G Ga sz) := by
  intro p e ha hc hk s m args below hf hfit hP hK
  obtain ⟨t, o, h1, h2, h3, h4⟩ := h sz p e ha hc hk s m args below hf hfit hP hK
  refine ⟨t, o, h1, h2, h3, ?_⟩
  rcases h4 with h4 | ⟨q, e1, E, ce, L, ⟨⟨J, e2, e3⟩, e4⟩, h5⟩
  · exact h4
  · exact absurd e2 (hx E J)
/-- an inherited method that throws nothing -/
theorem Rn.callUx {G : Gx} {Ga : List Shp} {Y : Ym} {kx : Kx} {d b pc : Nat} {ls : List (Option Value)} {st : List Value} {I : Hi} {C : String} {T : u_T} {N ci idx a n : Nat} {fl : List (Option (Option Nat))} {As rest : List Value} {y : Ym} {Rr : Rs → Hi → Prop} (hd : decode Y.2.1 pc = .ok (.invokevirtual idx, 3)) (hM : zMu Y.1.cls idx C y n) (hG : Ga[a]? = some (.inl (ci, fl))) (hC : vwCl[ci]? = some (C, T, N))
    (hst : st = As.reverse ++ .ref a :: rest) (hn : As.length = n) (hr : (rest.map fun v => v.category).sum ≤ 8) (hct : Ct G Ga y d 0 (.ref a :: As) I Rr) (hx : ∀ (E : String) (J : Hi), ¬ Rr (.inr E) J)
    (k : ∀ (v : Option Value) (J : Hi), Rr (.inl v) J → Rn G Ga Y kx (d + 1) b (pc + 3) ls (v.toList ++ rest) J) : Rn G Ga Y kx (d + 1) b pc ls st I := by
  subst hst
  intro p e R s m args below meth c H locs cells slots tc ts Z F hk lsA hl
  have F0' : zFr G Ga Y (d + 1) (b + 0) I p R s m args meth c H locs cells slots tc ts := F
  obtain ⟨F1, ⟨hP, hD, hS⟩, F3, F4, F5, F6, F7, F8⟩ := F
  have hts := F1.2.2.2.2.2.2.1
  have hw : ∀ w ∈ WA, w ∈ WA ∧ ((w.onTables && w.keeps) = true ∨ ∃ ty, w = .arrayClass ty) := fun w hw => ⟨hw, good_of_word (List.mem_filter.mp hw).2⟩
  have hgood : GoodIn WA (va_wsU Y.1.cls idx C y.1.cls ⟨C, y.1.name, y.1.desc⟩ y.1 (zwy y)) := by
    intro w h2
    unfold va_wsU at h2
    rcases List.mem_append.mp h2 with h2 | h2
    · exact hw _ (hM.1 w (by unfold va_wsU; exact List.mem_append_left _ h2))
    · exact zgood hM.2.1 w h2
  have run := va_runU (g := F0 m pc lsA ((As.reverse ++ Value.ref a :: rest).map (zr (gad G)))) (As := As.map (zr (gad G))) (rest := rest.map (zr (gad G))) (cells := cells) (slots := slots) (locs := locs) (e := e) (below := below) (meth := meth) ⟨F1.1, F1.2.1, F1.2.2.1, F1.2.2.2.2.2.1, hts⟩ (hct.met hx H.size)
    (va_cwU n hts hgood rfl rfl rfl rfl hM.2.2.2 ⟨by show d + 8 + 1 ≤ _; omega, by have := hM.2.2.1; show 8 + (y.2.2.1 + 11) + (40 * d + 200) ≤ _; omega⟩)
    (⟨zPc_blind, va_recv F1.2.2.2.2.2.2.2.1 hP hC (zws_get hG), fun U hU hW => zpre F0' U hU hW⟩) rfl (by rw [List.length_map]; exact hn) hl.1 (by simp [zr, List.map_reverse]) (lv_room (by rw [zsum]; exact hr)) hd ⟨by omega, by omega⟩
  exact zafter (b2 := b) (mc := 0) (Rr := Rr) F0' hk hl (fun T hT X => Or.inl (run T hT X)) (fun E J h => absurd h (hx E J)) k
/-- an overridden method that has no code of its own: the link names x, the receiver's class has y -/
def zMa (own : String) (idx : Nat) (C : String) (x : MethodName) (y : Ym) (n : Nat) : Prop := (∀ w ∈ va_wsU own idx C x.cls x y.1 ([] : List Cond), w ∈ WA) ∧ Cond.code y.1 y.2.1 y.2.2.1 y.2.2.2 ∈ WA ∧ y.2.2.1 ≤ 21 ∧ (x.cls ≠ "java/lang/invoke/MethodHandle" ∧ x.cls ≠ "java/lang/invoke/VarHandle" ∧ (parseMethodDescriptor x.desc).map (fun q => q.parameters.length) = some n) ∧ x ∈ zDc
theorem Rn.callAx {G : Gx} {Ga : List Shp} {Y : Ym} {kx : Kx} {d b pc : Nat} {ls : List (Option Value)} {st : List Value} {I : Hi} {C : String} {T : u_T} {N ci idx a n : Nat} {fl : List (Option (Option Nat))} {As rest : List Value} {x : MethodName} {y : Ym} {Rr : Rs → Hi → Prop} (hd : decode Y.2.1 pc = .ok (.invokevirtual idx, 3)) (hM : zMa Y.1.cls idx C x y n) (hG : Ga[a]? = some (.inl (ci, fl))) (hC : vwCl[ci]? = some (C, T, N))
    (hst : st = As.reverse ++ .ref a :: rest) (hn : As.length = n) (hr : (rest.map fun v => v.category).sum ≤ 8) (hct : Ct G Ga y d 0 (.ref a :: As) I Rr) (hx : ∀ (E : String) (J : Hi), ¬ Rr (.inr E) J)
    (k : ∀ (v : Option Value) (J : Hi), Rr (.inl v) J → Rn G Ga Y kx (d + 1) b (pc + 3) ls (v.toList ++ rest) J) : Rn G Ga Y kx (d + 1) b pc ls st I := by
  subst hst
  intro p e R s m args below meth c H locs cells slots tc ts Z F hk lsA hl
  have F0' : zFr G Ga Y (d + 1) (b + 0) I p R s m args meth c H locs cells slots tc ts := F
  obtain ⟨F1, ⟨hP, hD, hS⟩, F3, F4, F5, F6, F7, F8⟩ := F
  have hts := F1.2.2.2.2.2.2.1
  have hw : ∀ w ∈ WA, w ∈ WA ∧ ((w.onTables && w.keeps) = true ∨ ∃ ty, w = .arrayClass ty) := fun w hw => ⟨hw, good_of_word (List.mem_filter.mp hw).2⟩
  have hgood : GoodIn WA (va_wsU Y.1.cls idx C x.cls x y.1 (zwy y)) := by
    intro w h2
    unfold va_wsU at h2
    rcases List.mem_append.mp h2 with h2 | h2
    · exact hw _ (hM.1 w (by unfold va_wsU; exact List.mem_append_left _ h2))
    · exact zgood hM.2.1 w h2
  have run := va_runU (g := F0 m pc lsA ((As.reverse ++ Value.ref a :: rest).map (zr (gad G)))) (As := As.map (zr (gad G))) (rest := rest.map (zr (gad G))) (cells := cells) (slots := slots) (locs := locs) (e := e) (below := below) (meth := meth) ⟨F1.1, F1.2.1, F1.2.2.1, F1.2.2.2.2.2.1, hts⟩ (hct.met hx H.size)
    (va_cwA n hts hgood rfl rfl rfl (F1.2.2.2.2.2.2.2.2.2.2.2.2.1.2.2.1 x hM.2.2.2.2) hM.2.2.2.1 ⟨by show d + 8 + 1 ≤ _; omega, by have := hM.2.2.1; show 8 + (y.2.2.1 + 11) + (40 * d + 200) ≤ _; omega⟩)
    (⟨zPc_blind, va_recv F1.2.2.2.2.2.2.2.1 hP hC (zws_get hG), fun U hU hW => zpre F0' U hU hW⟩) rfl (by rw [List.length_map]; exact hn) hl.1 (by simp [zr, List.map_reverse]) (lv_room (by rw [zsum]; exact hr)) hd ⟨by omega, by omega⟩
  exact zafter (b2 := b) (mc := 0) (Rr := Rr) F0' hk hl (fun T hT X => Or.inl (run T hT X)) (fun E J h => absurd h (hx E J)) k
theorem vx_throwNS {p : Program} {l : Launch} {e : Env} {R : Room} {s : State} {m : MethodId} {args : Array Value} {below : List Frame} {meth : Method} {c : Code} {H : Heap} {locs : List Loc} {cells slots : Nat} {free : Addr → Prop} {ls : Array Slot} {rest : List Value} {Qc : Array Value → State → Outcome → State → Prop} {XC : String → State → State → Prop} {cc : ByteArray} {pc : Nat} (hexec : p.tables.exec = Jvm.exec) (hb : c.code = cc) (hl : l.stackTraces = false) {own cls Yn text : String} {names : List String} {ik is ic mc ms sa : Nat} {A : Nat → Prop}
    (hown : s.vm.findClass own = some m.cls) (hcls : Bundle.fit cls = true) (hY : Bundle.fit Yn = true) (hnames : ∀ n ∈ names, Bundle.fit n = true)
    (hk : (Cond.classLink own ik cls).before args s = true) (hini : (Cond.initialized cls).before args s = true) (hstr : vk_R own is text sa s) (hat : ∀ w ∈ (nAt own ic cls Yn names).filter vx_no, w.before args s = true)
    (hgood : ∀ w ∈ Cond.classLink own ik cls :: Cond.initialized cls :: (nAt own ic cls Yn names).filter vx_no, vx_ot w = true)
    (hU : vx_Zq Bundle.tN "UNASSIGNED_STACK" Bundle.steD A s s.heap) (hN : vx_Zq Bundle.tN "SUPPRESSED_SENTINEL" Bundle.listD A s s.heap) (hS : va_S A s.heap H locs) (hsize : ls.size = c.maxLocals)
    (d0 : decode cc pc = .ok (.new ik, 3)) (d3 : decode cc (pc + 3) = .ok (.dup, 1)) (d4 : decode cc (pc + 4) = .ok (.ldc is, 2)) (d7 : decode cc (pc + 6) = .ok (.invokespecial ic, 3)) (d10 : decode cc (pc + 9) = .ok (.athrow, 1))
    (hout : ∀ x ∈ c.exceptionTable.toList, covers x (pc + 9) = false)
    (hRframes : names.length + 4 < R.frames) (hRlocals : (rest.map fun v => v.category).sum + (13 * (names.length + 2) + 43) ≤ R.locals) (hRcells : cells + 1 ≤ R.cells) (hRslots : slots + 6 ≤ R.slots) (hlocks : meth.locks = false)
    (hx : ∀ t : State, s.vm.Alike t.vm → H.size ≤ t.heap.size → (∀ q : Nat, q < H.size → t.heap[q]? = H[q]?) → XC cls s t)
    (hf : ∀ z ∈ locs, free z.base) (hc : cells + 1 ≤ mc) (hs : slots + 6 ≤ ms) :
    W p l e R s m args below meth c H locs cells slots (vx_MQ below Qc XC args s mc ms free) (F0 m pc ls rest) := by
  intro T hT X
  have htr : e.platform.stackTraces = false := (show e.platform.stackTraces = l.stackTraces by rw [X.admits.platform]).trans hl
  have Y := vx_rebase X (R' := { frames := R.frames, locals := R.locals, cells := 1, slots := 6 }) (Nat.le_refl _) (Nat.le_refl _) hRcells hRslots
  obtain ⟨s', hA⟩ : ∃ z, z = (T.setVm s.vm).setFrames (.invoking m args :: below) := ⟨_, rfl⟩
  rw [← hA] at Y
  have hvm : s'.vm = s.vm := by rw [hA]; rfl
  have hhp : s'.heap = H := by rw [hA]; exact hT
  have hW0 : s.WarmedH s'.vm := by rw [hvm]; exact State.WarmedH.refl s
  have hat' : ∀ w ∈ (nAt own ic cls Yn names).filter vx_no, w.before args s' = true := fun w hw => vx_ot_at hW0 hvm.symm (hgood w (List.mem_cons_of_mem _ (List.mem_cons_of_mem _ hw))) (hat w hw)
  have hk' : (Cond.classLink own ik cls).before args s' = true := vx_ot_at hW0 hvm.symm (hgood _ List.mem_cons_self) hk
  have hini' : (Cond.initialized cls).before args s' = true := vx_ot_at hW0 hvm.symm (hgood _ (List.mem_cons_of_mem _ List.mem_cons_self)) hini
  have hU' : vx_Zq Bundle.tN "UNASSIGNED_STACK" Bundle.steD A s' s'.heap := by rw [hhp]; exact vx_Zq.moved hW0.alike (hU.kept hS.2.1)
  have hN' : vx_Zq Bundle.tN "SUPPRESSED_SENTINEL" Bundle.listD A s' s'.heap := by rw [hhp]; exact vx_Zq.moved hW0.alike (hN.kept hS.2.1)
  have h : ∀ w ∈ nAt own ic cls Yn names, w.before args s' = true := vx_own hat' (vx_isRefq hU'.1) (vx_isRefq hN'.1) hU'.2.word hN'.2.word
  have hown' : s'.vm.findClass own = some m.cls := by rw [hvm]; exact hown
  have hins : (Cond.instantiable cls 6).before args s' = true := h _ (by rw [nAt_eq]; simp)
  obtain ⟨vm₁, cX, kX, hfX, hkX, -, -, X₁, st1⟩ := Y.newCold hexec (own := own) (C := cls) (index := ik) (n := 6) hown' hk' hins hini'
    (g := F0 m pc ls rest) rfl (by rw [hb]; exact d0) (Nat.le_refl _) (Nat.le_refl _)
  generalize hT1 : (T.setVm vm₁).pushCell { cls := cX, slots := kX.instanceTypes.map defaultValue, vm := .none } = T1 at X₁ st1
  have hcat : (Value.ref T.heap.size).category = 1 := rfl
  have hcellA : T1.heap[T.heap.size]? = some (freshCell cX kX) := by rw [← hT1]; exact State.heap_pushCell_size _ _
  have d3' : decode c.code (pc + 3) = .ok (.dup, 1) := by rw [hb]; exact d3
  have d4' : decode c.code (pc + 4) = .ok (.ldc is, 2) := by rw [hb]; exact d4
  have hstr' : vk_R own is text sa s' := vk_R.warm hW0 hstr
  obtain ⟨U, hsteps, hrun, hend, hW, hsame, ce, hce, hO⟩ := ctorN X₁ hexec htr (own := own) (cls := cls) (Yn := Yn) (names := names) (ic := ic) hown' hcls hY hnames h (fun x hx => nomatch hx) hfX hkX hcellA (by rw [hhp, hT]; exact Nat.le_refl _) (msg := .ref sa) rfl
    (g := { method := m, pc := pc + 6, locals := ls, stack := .ref sa :: .ref T.heap.size :: .ref T.heap.size :: rest, locked := none }) rfl hsize rfl rfl (rest := rest) rfl
    (by rw [hb]; exact d7) (by rw [hb]; exact d10) hout hRframes (by simp only [List.map_cons, List.sum_cons, hcat]; omega) hlocks
  obtain ⟨f1, f2⟩ := vx_frame hsame
  rw [hhp] at f1 f2
  have hWs : s.WarmedH U.vm := State.WarmedH.trans hW0 hW
  have hcl : s.vm.findClass cls = some ce.cls := by
    have h9 := hO.2
    rw [hvm] at h9
    exact h9
  have hall : s.sameButNew ({ U with vm := s.vm } : State) locs mc ms := by
    subst hA
    obtain ⟨e1, e2⟩ := hsame
    rw [State.setFrames_setFrames] at e1
    have h2 : (T.setVm s.vm).sameButNew ({ U with vm := s.vm } : State) [] (0 + 1) (0 + 6) := ⟨e1, e2⟩
    have h3 := X.same.trans h2
    rw [List.append_nil] at h3
    exact h3.mono hc hs
  refine ⟨U, ?_, .threw T.heap.size, hrun, hend, Or.inr ⟨T.heap.size, rfl, cls, ce, locs, hx U hWs.alike f1 (fun q hq => f2 q hq (fun z hz => nomatch hz)), hce, hO.1, hcl, hWs, hall, hf⟩⟩
  refine st1 _ ?_
  show Steps p.tables e below (T1.setTop { method := m, pc := pc + 3, locals := ls, stack := .ref T.heap.size :: rest, locked := none }) _
  jvm_step X₁.here [X₁.here.top, hexec, d3', Value.category]
  exact X₁.ldcString hexec (own := own) (text := text) (index := is) (a := sa) hown' hstr'.1 hstr'.2
    (g := { method := m, pc := pc + 4, locals := ls, stack := .ref T.heap.size :: .ref T.heap.size :: rest, locked := none }) rfl d4' _ hsteps
theorem Rn.throwNS {G : Gx} {Ga : List Shp} {Y : Ym} {d b pc ik is ic : Nat} {cls Yn text : String} {names : List String} {ls : List (Option Value)} {I : Hi} {Q : Rs → Hi → Prop} (hT : zTn Y.1.cls ik is ic cls Yn text names)
    (d0 : decode Y.2.1 pc = .ok (.new ik, 3)) (d3 : decode Y.2.1 (pc + 3) = .ok (.dup, 1)) (d4 : decode Y.2.1 (pc + 4) = .ok (.ldc is, 2)) (d6 : decode Y.2.1 (pc + 6) = .ok (.invokespecial ic, 3)) (d9 : decode Y.2.1 (pc + 9) = .ok (.athrow, 1))
    (h : Q (.inr cls) I) (hb : 1 ≤ b := by omega) : Rn G Ga Y (kM G Ga Q) d b pc ls [] I := by
  obtain ⟨t1, t10, t2, t3, t4, ⟨i, t5⟩, t6, t9, t7, t8⟩ := hT
  intro p e R s m args below meth c H locs cells slots tc ts Z F hk lsA hl
  obtain ⟨F1, ⟨hP, hD, hS⟩, F3, F4, F5, F6, F7, F8⟩ := F
  obtain ⟨ht, rfl⟩ := hk
  have hts := F1.2.2.2.2.2.2.1
  have hK := F1.2.2.2.2.2.2.2
  exact vx_throwNS (names := names) (rest := []) F1.1 F1.2.1 hK.2.2.2.2.2.2 F1.2.2.2.2.2.1 t1 t10 t2 (hts _ t3) (hts _ t4) (hK.2.2.1 _ t5) (fun w hw => (t6 w hw).elim (hts w) (fun e => e.elim (fun e => by rw [e]; exact va_Nw.use rfl (hK.2.2.2.2.2.1.1 _ t9)) (fun ⟨x, hx, e⟩ => by rw [e]; exact va_Nw.use rfl (hK.2.2.2.2.2.1.2.2.1 x hx)))) t7 hK.2.2.2.1 hK.2.2.2.2.1 hS (hl.1.trans F1.2.2.1.symm) d0 d3 d4 d6 d9 (fun x hx => (ht x hx).elim)
    (by omega) (by simp; omega) (by omega) (by omega) F1.2.2.2.2.1
    (fun t _ h1 h2 => ⟨⟨I, h, fun k q hk => (hP k q hk).kept (h2 _ (hP k q hk).lt)⟩, Nat.le_trans hS.1 h1, fun q hq hA => by rw [h2 q (Nat.lt_of_lt_of_le hq hS.1)]; exact hS.2.1 q hq hA⟩) hS.2.2 (by omega) (by omega)
theorem zofWF {l : Launch} {y : MethodName} {ws ws' : List Cond} {rm : Room} {Pc : Array Value → State → Prop} {Qc : Array Value → State → Outcome → State → Prop} {XC : String → State → State → Prop} {mc ms : Nat} {free : Addr → Prop} {cc : ByteArray} {maxL : Nat} {ret : Option FieldType}
    (hy : plainFor y = true) (hw : ws = Cond.code y cc maxL ret :: ws')
    (body : ∀ p e s m args below meth c s₁, BodyLoose p l y (headSpec ws rm) cc maxL ret e s m args below meth c s₁ → c.maxLocals = maxL → (∀ x ∈ c.exceptionTable.toList, False) → Pc args s →
      W p l e (headSpec ws rm).room s m args below meth c s.heap [] 0 0 (vx_MQ below Qc XC args s mc ms free) (entryFrame m args maxL)) : vx_Met l y ws rm Pc Qc XC mc ms free := by
  refine MetFree.of_bodySF (code := cc) (maxLocals := maxL) (ret := ret) hy ?_ ?_
  · intro args s m h hn
    obtain ⟨meth, c, h1, h2, h3, h4, h5, h6, -, -⟩ := Cond.code_spec hn (atoms_spec (ws := ws) h _ (by rw [hw]; exact List.mem_cons_self))
    exact ⟨meth, c, h1, h2, h3, h4, h5, h6⟩
  · intro p e s m args below meth c s₁ B hml hP _
    have hh0 : s₁.heap = s.heap := by rw [B.state]; rfl
    have ht : ∀ x ∈ c.exceptionTable.toList, False := by
      obtain ⟨meth9, c9, h1, h2, -, -, -, -, h7, -⟩ := Cond.code_spec B.named (atoms_spec (ws := ws) B.pre _ (by rw [hw]; exact List.mem_cons_self))
      cases Option.some.inj (h1.symm.trans B.method)
      cases Option.some.inj (h2.symm.trans (Stand.of_body B).code)
      intro x hx
      rw [Array.isEmpty_iff.mp h7] at hx
      cases hx
    obtain ⟨t, a1, o, b1, b2, b3⟩ := body p e s m args below meth c s₁ B hml ht hP s₁ hh0 (Stand.of_body B)
    exact ⟨t, o, a1, b1, b2, b3⟩
theorem Ct.ofF {G : Gx} {Ga : List Shp} {y : Ym} {d b : Nat} {vs : List Value} {I : Hi} {Q : Rs → Hi → Prop} {ls : List (Option Value)} (hy : plainFor y.1 = true) (hc : ∀ v ∈ vs, v.category = 1) (hn : vs.length ≤ y.2.2.1)
    (hl : ls = vs.map some ++ List.replicate (y.2.2.1 - vs.length) none) (k : Rn G Ga y (kM G Ga Q) d b 0 ls [] I) : Ct G Ga y d b vs I Q := by
  intro sz
  refine zofWF (cc := y.2.1) (maxL := y.2.2.1) (ret := y.2.2.2) hy rfl ?_
  intro p e s m args below meth c s₁ B hml ht hv
  obtain ⟨rfl, rfl, hP, hD, hK⟩ := hv
  have hts := atoms_spec (ws := zwy y) B.pre
  have hown : s.vm.findClass y.1.cls = some m.cls := findClass_of_methodNamed B.named
  have hl9 := lv_entry (vs.map (zr (gad G))) (n := y.2.2.1) (by rw [lg_sl_len vs hc]; exact hn)
  rw [lg_entry_eq]
  have h9 := k p e (zrm d b) s m _ below meth c s.heap [] 0 0 b (6 * b) _ ⟨⟨B.exec, B.bytes, hml, B.returns, B.notSynchronized, hown, fun w hw => hts w (List.mem_cons_of_mem _ hw), hK⟩, ⟨hP, hD, va_S.rf⟩, Nat.le_refl _, Nat.le_refl _, by omega, by omega, Nat.le_refl _, Nat.le_refl _, (name_of_methodNamed B.named B.method).1⟩ ⟨ht, rfl⟩ _ (by rw [hl, zl_args vs 0 _ hc]; exact hl9)
  exact h9
