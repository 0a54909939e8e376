/-! text constants: string i of zSR has the id 1000 + i, its bytes the id 1100 + i -/
section RnStr
variable {G : Gx} {Ga : List Shp} {Y : Ym} {kx : Kx} {d b pc pc' idx : Nat} {ls : List (Option Value)} {st : List Value} {I : Hi}
theorem Rn.ldcS {tx : String} {i : Nat} (hd : decode Y.2.1 pc = .ok (.ldc idx, 2)) (hw : (Y.1.cls, idx, tx, i) ∈ zSR) (k : Rn G Ga Y kx d b pc' ls (.ref i :: st) I) (hp : pc + 2 = pc' := by rfl) : Rn G Ga Y kx d b pc ls st I := by
  subst hp
  intro p e R s m args below meth c H locs cells slots tc ts Z F hk lsA hl
  exact va_ldcS F.1.1 F.1.2.1 F.1.2.2.2.2.2.1 (F.1.2.2.2.2.2.2.2.2.2.1 _ hw) hd (k p e R s m args below meth c H locs cells slots tc ts Z F hk lsA hl)
theorem Rn.getSV {i : Nat} (hd : decode Y.2.1 pc = .ok (.getfield idx, 3)) (hw : Cond.fieldLink Y.1.cls idx "java/lang/String" "value" "[B" ∈ WA) (hi : i < zsN) (k : Rn G Ga Y kx d b pc' ls (.ref (1100 + i) :: st) I) (hp : pc + 3 = pc' := by rfl) : Rn G Ga Y kx d b pc ls (.ref (1000 + i) :: st) I := by
  subst hp
  intro p e R s m args below meth c H locs cells slots tc ts Z F hk lsA hl
  have hS := F.xt.2.1
  exact vk_getf F.1.1 F.1.2.1 (hS.1 i hi).2.2.1 F.2.1.2.2 F.1.2.2.2.2.2.1 (F.1.2.2.2.2.2.2.1 _ hw) (fun _ h => h) hd (k p e R s m args below meth c H locs cells slots tc ts Z F hk lsA hl)
theorem Rn.getSC {i : Nat} (hd : decode Y.2.1 pc = .ok (.getfield idx, 3)) (hw : Cond.fieldLink Y.1.cls idx "java/lang/String" "coder" "B" ∈ WA) (hi : i < zsN) (k : Rn G Ga Y kx d b pc' ls (.int 0 :: st) I) (hp : pc + 3 = pc' := by rfl) : Rn G Ga Y kx d b pc ls (.ref (1000 + i) :: st) I := by
  subst hp
  intro p e R s m args below meth c H locs cells slots tc ts Z F hk lsA hl
  have hS := F.xt.2.1
  exact vk_getf F.1.1 F.1.2.1 (hS.1 i hi).2.1 F.2.1.2.2 F.1.2.2.2.2.2.1 (F.1.2.2.2.2.2.2.1 _ hw) (fun _ h => h) hd (k p e R s m args below meth c H locs cells slots tc ts Z F hk lsA hl)
theorem Rn.lenS {i : Nat} (hd : decode Y.2.1 pc = .ok (.arraylength, 1)) (hi : i < zsN) (k : Rn G Ga Y kx d b pc' ls (.int (nI (zsLen.getD i 0)) :: st) I) (hp : pc + 1 = pc' := by rfl) : Rn G Ga Y kx d b pc ls (.ref (1100 + i) :: st) I := by
  subst hp
  intro p e R s m args below meth c H locs cells slots tc ts Z F hk lsA hl
  have hS := F.xt.2.1
  exact va_tlen F.1.1 F.1.2.1 (hS.1 i hi).2.2.2 F.2.1.2.2 rfl hd (k p e R s m args below meth c H locs cells slots tc ts Z F hk lsA hl)
theorem Rn.baldS {i j : Nat} (hd : decode Y.2.1 pc = .ok (.baload, 1)) (hi : i < zsN) (hj : j < zsLen.getD i 0) (hn : zsLen.getD i 0 < 2147483648) (k : Rn G Ga Y kx d b pc' ls (.int ((zsByt.getD i []).getD j 0) :: st) I) (hp : pc + 1 = pc' := by rfl) : Rn G Ga Y kx d b pc ls (.int (nI j) :: .ref (1100 + i) :: st) I := by
  subst hp
  intro p e R s m args below meth c H locs cells slots tc ts Z F hk lsA hl
  have hS := F.xt.2.1
  exact va_tb F.1.1 F.1.2.1 (hS.1 i hi).2.2.2 F.2.1.2.2 (vp_in_nI hj (by omega)) (by rw [nI_clamp (by omega)]; rfl) hd (k p e R s m args below meth c H locs cells slots tc ts Z F hk lsA hl)
theorem Rn.getsC (hd : decode Y.2.1 pc = .ok (.getstatic idx, 3)) (hw : Cond.fieldLink Y.1.cls idx "java/lang/String" "COMPACT_STRINGS" "Z" ∈ WA) (k : Rn G Ga Y kx d b pc' ls (.int 1 :: st) I) (hp : pc + 3 = pc' := by rfl) : Rn G Ga Y kx d b pc ls st I := by
  subst hp
  intro p e R s m args below meth c H locs cells slots tc ts Z F hk lsA hl
  have hZ := F.xt.2.2.1
  exact va_gets F.1.1 F.1.2.1 hZ F.2.1.2.2 F.1.2.2.2.2.2.1 (F.1.2.2.2.2.2.2.1 _ hw) (fun _ h => h) hd (k p e R s m args below meth c H locs cells slots tc ts Z F hk lsA hl)
theorem Rn.getsQ (hd : decode Y.2.1 pc = .ok (.getstatic idx, 3)) (hw : Cond.fieldLink Y.1.cls idx "jdk/internal/util/Preconditions" "SIOOBE_FORMATTER" "Ljava/util/function/BiFunction;" ∈ WA) (k : ∀ v, (v = .null ∨ v = .ref 1999) → Rn G Ga Y kx d b pc' ls (v :: st) I) (hp : pc + 3 = pc' := by rfl) : Rn G Ga Y kx d b pc ls st I := by
  subst hp
  intro p e R s m args below meth c H locs cells slots tc ts Z F hk lsA hl
  have hZ := F.xt.2.2.2
  rcases hZ with hZ | hZ
  · exact va_gets F.1.1 F.1.2.1 hZ F.2.1.2.2 F.1.2.2.2.2.2.1 (F.1.2.2.2.2.2.2.1 _ hw) (fun _ h => h) hd (k .null (Or.inl rfl) p e R s m args below meth c H locs cells slots tc ts Z F hk lsA hl)
  · exact va_gets F.1.1 F.1.2.1 hZ F.2.1.2.2 F.1.2.2.2.2.2.1 (F.1.2.2.2.2.2.2.1 _ hw) (fun _ h => h) hd (k (.ref 1999) (Or.inr rfl) p e R s m args below meth c H locs cells slots tc ts Z F hk lsA hl)
theorem Rn.i2c {x : Int32} (hd : decode Y.2.1 pc = .ok (.i2c, 1)) (k : Rn G Ga Y kx d b pc' ls (.int (x.toUInt32 % 65536).toInt32 :: st) I) (hp : pc + 1 = pc' := by rfl) : Rn G Ga Y kx d b pc ls (.int x :: st) I := by
  subst hp
  intro p e R s m args below meth c H locs cells slots tc ts Z F hk lsA hl
  exact lv_i2c F.1.1 F.1.2.1 hd rfl (k p e R s m args below meth c H locs cells slots tc ts Z F hk lsA hl)
theorem Rn.tret {Q : Rs → Hi → Prop} {v : Int32} {ty : FieldType} (hd : decode Y.2.1 pc = .ok (.ireturn, 1)) (hr : Y.2.2.2 = some ty) (hv : narrow ty (.int v) = .int v) (h : Q (.inl (some (.int v))) I) : Rn G Ga Y (kM G Ga Q) d b pc ls [.int v] I := by
  intro p e R s m args below meth c H locs cells slots tc ts Z F hk lsA hl
  obtain ⟨F1, ⟨hP, hD, hS⟩, F3, F4, F5, F6, F7, F8⟩ := F
  obtain ⟨ht, rfl⟩ := hk
  refine W.widen (k := tc) (n := ts) (by omega) (by omega) (vx_ret ?_)
  have hlocks : meth.locks = false := F1.2.2.2.2.1
  exact W.zret F1.1 F1.2.1 (F1.2.2.2.1.trans hr) hv (fun t h1 _ => ⟨⟨some (.int v), I, rfl, h, by rw [h1]; exact hP⟩, by rw [h1]; exact hS.1, by rw [h1]; exact hS.2.1⟩) hS.2.2 hd hlocks
/-- a call on a text constant -/
theorem Rn.callVs {i n : Nat} {As rest : List Value} {y : Ym} {v : Option Value} {J : Hi} (hd : decode Y.2.1 pc = .ok (.invokevirtual idx, 3)) (hM : zMv Y.1.cls idx "java/lang/String" y n) (hi : i < zsN)
    (hst : st = As.reverse ++ .ref (1000 + i) :: rest) (hn : As.length = n) (hr : (rest.map fun v => v.category).sum ≤ 8) (hct : Ct G Ga y d 0 (.ref (1000 + i) :: As) I (Rp v J))
    (k : Rn G Ga Y kx (d + 1) b pc' ls (v.toList ++ rest) J) (hp : pc + 3 = pc' := by rfl) : Rn G Ga Y kx (d + 1) b pc ls st I := by
  subst hp
  subst hst
  intro p e R s m args below meth c H locs cells slots tc ts Z F hk lsA hl
  have F0' : zFr G Ga Y (d + 1) (b + 0) I p R s m args meth c H locs cells slots tc ts := F
  obtain ⟨F1, ⟨hP, hD, hS⟩, F3, F4, F5, F6, F7, F8⟩ := F
  have hvS := F0'.xt.2.1
  have run := vx_runV (g := F0 m pc lsA ((As.reverse ++ Value.ref (1000 + i) :: rest).map (zr (gad G)))) (As := As.map (zr (gad G))) (rest := rest.map (zr (gad G))) (cells := cells) (slots := slots) (locs := locs) (e := e) (below := below) (meth := meth) ⟨F1.1, F1.2.1, F1.2.2.1, F1.2.2.2.2.2.1, F1.2.2.2.2.2.2.1⟩ (hct H.size)
    (⟨zcallB F1.2.2.2.2.2.2.1 hM.1 F3 F4, F1.2.2.2.2.2.2.1 _ hM.2.1, F1.2.2.2.2.2.2.1 _ hM.2.2⟩ : CallW R s args Y.1.cls "java/lang/String" idx y.1 y.2.1 y.2.2.1 y.2.2.2 (zwy y) (zrm d 0) 0 (6 * 0) n)
    (⟨zPc_blind, vk_recv hvS hi hS, fun U hU hW => zpre F0' U hU hW⟩) rfl (by rw [List.length_map]; exact hn) hl.1 (by simp [zr, List.map_reverse]) (lv_room (by rw [zsum]; exact hr)) hd ⟨by omega, by omega⟩
  exact zafter F0' hk hl run (fun E J hE => nomatch hE.1) (fun w K h => by obtain ⟨h1, h2⟩ := h; cases h1; cases h2; exact k)
end RnStr
