section RnRules
variable {G : Gx} {Ga : List Shp} {Y : Ym} {kx : Kx} {d b pc pc' : Nat} {ls : List (Option Value)} {st : List Value} {I : Hi}
theorem Rn.iconst {n : Int} {v : Int32} (hd : decode Y.2.1 pc = .ok (.iconst n, 1)) (hv : Int32.ofInt n = v) (k : Rn G Ga Y kx d b pc' ls (.int v :: st) I) (hp : pc + 1 = pc' := by rfl) : Rn G Ga Y kx d b pc ls (st) I := by
  subst hp
  intro p e R s m args below meth c H locs cells slots tc ts Z F hk lsA hl
  exact lv_iconst F.1.1 F.1.2.1 hd hv (k p e R s m args below meth c H locs cells slots tc ts Z F hk lsA hl)
theorem Rn.bipush {n : Int} {v : Int32} (hd : decode Y.2.1 pc = .ok (.bipush n, 2)) (hv : (Int8.ofInt n).toInt32 = v) (k : Rn G Ga Y kx d b pc' ls (.int v :: st) I) (hp : pc + 2 = pc' := by rfl) : Rn G Ga Y kx d b pc ls (st) I := by
  subst hp
  intro p e R s m args below meth c H locs cells slots tc ts Z F hk lsA hl
  exact lv_bipush F.1.1 F.1.2.1 hd hv (k p e R s m args below meth c H locs cells slots tc ts Z F hk lsA hl)
theorem Rn.sipush {n : Int} {v : Int32} (hd : decode Y.2.1 pc = .ok (.sipush n, 3)) (hv : (Int16.ofInt n).toInt32 = v) (k : Rn G Ga Y kx d b pc' ls (.int v :: st) I) (hp : pc + 3 = pc' := by rfl) : Rn G Ga Y kx d b pc ls (st) I := by
  subst hp
  intro p e R s m args below meth c H locs cells slots tc ts Z F hk lsA hl
  exact lv_sipush F.1.1 F.1.2.1 hd hv (k p e R s m args below meth c H locs cells slots tc ts Z F hk lsA hl)
theorem Rn.aconst_null (hd : decode Y.2.1 pc = .ok (.aconst_null, 1)) (k : Rn G Ga Y kx d b pc' ls (.null :: st) I) (hp : pc + 1 = pc' := by rfl) : Rn G Ga Y kx d b pc ls (st) I := by
  subst hp
  intro p e R s m args below meth c H locs cells slots tc ts Z F hk lsA hl
  exact lv_null F.1.1 F.1.2.1 hd (k p e R s m args below meth c H locs cells slots tc ts Z F hk lsA hl)
theorem Rn.ldc {idx : Nat} {v : Int32} (hd : decode Y.2.1 pc = .ok (.ldc idx, 2)) (hw : Cond.constant Y.1.cls idx v ∈ WA) (k : Rn G Ga Y kx d b pc' ls (.int v :: st) I) (hp : pc + 2 = pc' := by rfl) : Rn G Ga Y kx d b pc ls (st) I := by
  subst hp
  intro p e R s m args below meth c H locs cells slots tc ts Z F hk lsA hl
  exact lv_ldc F.1.1 F.1.2.1 F.1.2.2.2.2.2.1 (F.1.2.2.2.2.2.2.1 _ hw) hd (k p e R s m args below meth c H locs cells slots tc ts Z F hk lsA hl)
theorem Rn.iload_n {q : Fin 4} {i : Nat} {x : Int32} (hd : decode Y.2.1 pc = .ok (.iload_n q, 1)) (hi : (q : Nat) = i) (h : ls[i]? = some (some (.int x))) (k : Rn G Ga Y kx d b pc' ls (.int x :: st) I) (hp : pc + 1 = pc' := by rfl) : Rn G Ga Y kx d b pc ls (st) I := by
  subst hp
  intro p e R s m args below meth c H locs cells slots tc ts Z F hk lsA hl
  exact lv_iload_n F.1.1 F.1.2.1 hd hi (zl_at hl h rfl) (k p e R s m args below meth c H locs cells slots tc ts Z F hk lsA hl)
theorem Rn.iload {i : Nat} {x : Int32} (hd : decode Y.2.1 pc = .ok (.iload i, 2)) (h : ls[i]? = some (some (.int x))) (k : Rn G Ga Y kx d b pc' ls (.int x :: st) I) (hp : pc + 2 = pc' := by rfl) : Rn G Ga Y kx d b pc ls (st) I := by
  subst hp
  intro p e R s m args below meth c H locs cells slots tc ts Z F hk lsA hl
  exact lv_iload F.1.1 F.1.2.1 hd (zl_at hl h rfl) (k p e R s m args below meth c H locs cells slots tc ts Z F hk lsA hl)
theorem Rn.aload_n {q : Fin 4} {i : Nat} {x : Nat} (hd : decode Y.2.1 pc = .ok (.aload_n q, 1)) (hi : (q : Nat) = i) (h : ls[i]? = some (some (.ref x))) (k : Rn G Ga Y kx d b pc' ls (.ref x :: st) I) (hp : pc + 1 = pc' := by rfl) : Rn G Ga Y kx d b pc ls (st) I := by
  subst hp
  intro p e R s m args below meth c H locs cells slots tc ts Z F hk lsA hl
  exact lv_aload_n F.1.1 F.1.2.1 hd hi (zl_at hl h rfl) (k p e R s m args below meth c H locs cells slots tc ts Z F hk lsA hl)
theorem Rn.aload {i : Nat} {x : Nat} (hd : decode Y.2.1 pc = .ok (.aload i, 2)) (h : ls[i]? = some (some (.ref x))) (k : Rn G Ga Y kx d b pc' ls (.ref x :: st) I) (hp : pc + 2 = pc' := by rfl) : Rn G Ga Y kx d b pc ls (st) I := by
  subst hp
  intro p e R s m args below meth c H locs cells slots tc ts Z F hk lsA hl
  exact lv_aload F.1.1 F.1.2.1 hd (zl_at hl h rfl) (k p e R s m args below meth c H locs cells slots tc ts Z F hk lsA hl)
theorem Rn.istore_n {q : Fin 4} {i : Nat} {x : Int32} (hd : decode Y.2.1 pc = .ok (.istore_n q, 1)) (hi : (q : Nat) = i) (hn : i < Y.2.2.1) (k : Rn G Ga Y kx d b pc' (ls.set i (some (.int x))) st I) (hp : pc + 1 = pc' := by rfl) : Rn G Ga Y kx d b pc ls (.int x :: st) I := by
  subst hp
  intro p e R s m args below meth c H locs cells slots tc ts Z F hk lsA hl
  exact lv_istore_n F.1.1 F.1.2.1 hd hi hl hn rfl (fun ls9 h9 => k p e R s m args below meth c H locs cells slots tc ts Z F hk ls9 (zl_set (v := .int x) h9))
theorem Rn.istore {i : Nat} {x : Int32} (hd : decode Y.2.1 pc = .ok (.istore i, 2)) (hn : i < Y.2.2.1) (k : Rn G Ga Y kx d b pc' (ls.set i (some (.int x))) st I) (hp : pc + 2 = pc' := by rfl) : Rn G Ga Y kx d b pc ls (.int x :: st) I := by
  subst hp
  intro p e R s m args below meth c H locs cells slots tc ts Z F hk lsA hl
  exact lv_istore F.1.1 F.1.2.1 hd hl hn rfl (fun ls9 h9 => k p e R s m args below meth c H locs cells slots tc ts Z F hk ls9 (zl_set (v := .int x) h9))
theorem Rn.astore_n {q : Fin 4} {i : Nat} {x : Nat} (hd : decode Y.2.1 pc = .ok (.astore_n q, 1)) (hi : (q : Nat) = i) (hn : i < Y.2.2.1) (k : Rn G Ga Y kx d b pc' (ls.set i (some (.ref x))) st I) (hp : pc + 1 = pc' := by rfl) : Rn G Ga Y kx d b pc ls (.ref x :: st) I := by
  subst hp
  intro p e R s m args below meth c H locs cells slots tc ts Z F hk lsA hl
  exact lv_astore_n F.1.1 F.1.2.1 hd hi hl hn rfl (fun ls9 h9 => k p e R s m args below meth c H locs cells slots tc ts Z F hk ls9 (zl_set (v := .ref x) h9))
theorem Rn.astore {i : Nat} {x : Nat} (hd : decode Y.2.1 pc = .ok (.astore i, 2)) (hn : i < Y.2.2.1) (k : Rn G Ga Y kx d b pc' (ls.set i (some (.ref x))) st I) (hp : pc + 2 = pc' := by rfl) : Rn G Ga Y kx d b pc ls (.ref x :: st) I := by
  subst hp
  intro p e R s m args below meth c H locs cells slots tc ts Z F hk lsA hl
  exact lv_astore F.1.1 F.1.2.1 hd hl hn rfl (fun ls9 h9 => k p e R s m args below meth c H locs cells slots tc ts Z F hk ls9 (zl_set (v := .ref x) h9))
theorem Rn.astore_nN {q : Fin 4} {i : Nat} (hd : decode Y.2.1 pc = .ok (.astore_n q, 1)) (hi : (q : Nat) = i) (hn : i < Y.2.2.1) (k : Rn G Ga Y kx d b pc' (ls.set i (some (.null))) st I) (hp : pc + 1 = pc' := by rfl) : Rn G Ga Y kx d b pc ls (.null :: st) I := by
  subst hp
  intro p e R s m args below meth c H locs cells slots tc ts Z F hk lsA hl
  exact lv_astore_nN F.1.1 F.1.2.1 hd hi hl hn rfl (fun ls9 h9 => k p e R s m args below meth c H locs cells slots tc ts Z F hk ls9 (zl_set (v := .null) h9))
theorem Rn.astoreN {i : Nat} (hd : decode Y.2.1 pc = .ok (.astore i, 2)) (hn : i < Y.2.2.1) (k : Rn G Ga Y kx d b pc' (ls.set i (some (.null))) st I) (hp : pc + 2 = pc' := by rfl) : Rn G Ga Y kx d b pc ls (.null :: st) I := by
  subst hp
  intro p e R s m args below meth c H locs cells slots tc ts Z F hk lsA hl
  exact lv_astoreN F.1.1 F.1.2.1 hd hl hn rfl (fun ls9 h9 => k p e R s m args below meth c H locs cells slots tc ts Z F hk ls9 (zl_set (v := .null) h9))
theorem Rn.aload_nN {q : Fin 4} {i : Nat} (hd : decode Y.2.1 pc = .ok (.aload_n q, 1)) (hi : (q : Nat) = i) (h : ls[i]? = some (some .null)) (k : Rn G Ga Y kx d b pc' ls (.null :: st) I) (hp : pc + 1 = pc' := by rfl) : Rn G Ga Y kx d b pc ls (st) I := by
  subst hp
  intro p e R s m args below meth c H locs cells slots tc ts Z F hk lsA hl
  exact lv_aload_nN F.1.1 F.1.2.1 hd hi (zl_at hl h rfl) (k p e R s m args below meth c H locs cells slots tc ts Z F hk lsA hl)
theorem zl_place {l : List (Nat × Value)} {q : Nat × Value} (h : q ∈ l) : ∃ j : Nat, l[j]? = some q := List.getElem?_of_mem h
theorem Rn.iinc {i : Nat} {n : Int} {x v : Int32} (hd : decode Y.2.1 pc = .ok (.iinc i n, 3)) (h : ls[i]? = some (some (.int x))) (hv : x + Int32.ofInt n = v) (hn : i < Y.2.2.1) (k : Rn G Ga Y kx d b pc' (ls.set i (some (.int v))) st I) (hp : pc + 3 = pc' := by rfl) : Rn G Ga Y kx d b pc ls st I := by
  subst hp
  intro p e R s m args below meth c H locs cells slots tc ts Z F hk lsA hl
  obtain ⟨j, hj⟩ := zl_place (zl_mem (ad := gad G) (i := 0) (v := .int x) rfl h)
  rw [Nat.zero_add] at hj
  exact lv_iinc F.1.1 F.1.2.1 hd hl hj hv hn rfl (fun ls9 h9 => k p e R s m args below meth c H locs cells slots tc ts Z F hk ls9 (zl_set (v := .int v) h9))
theorem Rn.iadd {x y : Int32} (hd : decode Y.2.1 pc = .ok (.iadd, 1)) (k : Rn G Ga Y kx d b pc' ls (.int (x + y) :: st) I) (hp : pc + 1 = pc' := by rfl) : Rn G Ga Y kx d b pc ls (.int y :: .int x :: st) I := by
  subst hp
  intro p e R s m args below meth c H locs cells slots tc ts Z F hk lsA hl
  exact lv_iadd F.1.1 F.1.2.1 hd (k p e R s m args below meth c H locs cells slots tc ts Z F hk lsA hl)
theorem Rn.isub {x y : Int32} (hd : decode Y.2.1 pc = .ok (.isub, 1)) (k : Rn G Ga Y kx d b pc' ls (.int (x - y) :: st) I) (hp : pc + 1 = pc' := by rfl) : Rn G Ga Y kx d b pc ls (.int y :: .int x :: st) I := by
  subst hp
  intro p e R s m args below meth c H locs cells slots tc ts Z F hk lsA hl
  exact lv_isub F.1.1 F.1.2.1 hd (k p e R s m args below meth c H locs cells slots tc ts Z F hk lsA hl)
theorem Rn.imul {x y : Int32} (hd : decode Y.2.1 pc = .ok (.imul, 1)) (k : Rn G Ga Y kx d b pc' ls (.int (x * y) :: st) I) (hp : pc + 1 = pc' := by rfl) : Rn G Ga Y kx d b pc ls (.int y :: .int x :: st) I := by
  subst hp
  intro p e R s m args below meth c H locs cells slots tc ts Z F hk lsA hl
  exact lv_imul F.1.1 F.1.2.1 hd (k p e R s m args below meth c H locs cells slots tc ts Z F hk lsA hl)
theorem Rn.iand {x y : Int32} (hd : decode Y.2.1 pc = .ok (.iand, 1)) (k : Rn G Ga Y kx d b pc' ls (.int (x &&& y) :: st) I) (hp : pc + 1 = pc' := by rfl) : Rn G Ga Y kx d b pc ls (.int y :: .int x :: st) I := by
  subst hp
  intro p e R s m args below meth c H locs cells slots tc ts Z F hk lsA hl
  exact lv_iand F.1.1 F.1.2.1 hd (k p e R s m args below meth c H locs cells slots tc ts Z F hk lsA hl)
theorem Rn.ior {x y : Int32} (hd : decode Y.2.1 pc = .ok (.ior, 1)) (k : Rn G Ga Y kx d b pc' ls (.int (x ||| y) :: st) I) (hp : pc + 1 = pc' := by rfl) : Rn G Ga Y kx d b pc ls (.int y :: .int x :: st) I := by
  subst hp
  intro p e R s m args below meth c H locs cells slots tc ts Z F hk lsA hl
  exact lv_ior F.1.1 F.1.2.1 hd (k p e R s m args below meth c H locs cells slots tc ts Z F hk lsA hl)
theorem Rn.ixor {x y : Int32} (hd : decode Y.2.1 pc = .ok (.ixor, 1)) (k : Rn G Ga Y kx d b pc' ls (.int (x ^^^ y) :: st) I) (hp : pc + 1 = pc' := by rfl) : Rn G Ga Y kx d b pc ls (.int y :: .int x :: st) I := by
  subst hp
  intro p e R s m args below meth c H locs cells slots tc ts Z F hk lsA hl
  exact lv_ixor F.1.1 F.1.2.1 hd (k p e R s m args below meth c H locs cells slots tc ts Z F hk lsA hl)
theorem Rn.ineg {x : Int32} (hd : decode Y.2.1 pc = .ok (.ineg, 1)) (k : Rn G Ga Y kx d b pc' ls (.int (-x) :: st) I) (hp : pc + 1 = pc' := by rfl) : Rn G Ga Y kx d b pc ls (.int x :: st) I := by
  subst hp
  intro p e R s m args below meth c H locs cells slots tc ts Z F hk lsA hl
  exact lv_ineg F.1.1 F.1.2.1 hd (k p e R s m args below meth c H locs cells slots tc ts Z F hk lsA hl)
theorem Rn.idiv {x y : Int32} (hd : decode Y.2.1 pc = .ok (.idiv, 1)) (hne : ¬ y = 0) (k : Rn G Ga Y kx d b pc' ls (.int (x / y) :: st) I) (hp : pc + 1 = pc' := by rfl) : Rn G Ga Y kx d b pc ls (.int y :: .int x :: st) I := by
  subst hp
  intro p e R s m args below meth c H locs cells slots tc ts Z F hk lsA hl
  exact lv_idiv F.1.1 F.1.2.1 hd hne (k p e R s m args below meth c H locs cells slots tc ts Z F hk lsA hl)
theorem Rn.irem {x y : Int32} (hd : decode Y.2.1 pc = .ok (.irem, 1)) (hne : ¬ y = 0) (k : Rn G Ga Y kx d b pc' ls (.int (x - x / y * y) :: st) I) (hp : pc + 1 = pc' := by rfl) : Rn G Ga Y kx d b pc ls (.int y :: .int x :: st) I := by
  subst hp
  intro p e R s m args below meth c H locs cells slots tc ts Z F hk lsA hl
  exact lv_irem F.1.1 F.1.2.1 hd hne (k p e R s m args below meth c H locs cells slots tc ts Z F hk lsA hl)
theorem Rn.ishl {x y : Int32} (hd : decode Y.2.1 pc = .ok (.ishl, 1)) (k : Rn G Ga Y kx d b pc' ls (.int (x <<< (y &&& 31)) :: st) I) (hp : pc + 1 = pc' := by rfl) : Rn G Ga Y kx d b pc ls (.int y :: .int x :: st) I := by
  subst hp
  intro p e R s m args below meth c H locs cells slots tc ts Z F hk lsA hl
  exact lv_ishl F.1.1 F.1.2.1 hd (k p e R s m args below meth c H locs cells slots tc ts Z F hk lsA hl)
theorem Rn.ishr {x y : Int32} (hd : decode Y.2.1 pc = .ok (.ishr, 1)) (k : Rn G Ga Y kx d b pc' ls (.int (x >>> (y &&& 31)) :: st) I) (hp : pc + 1 = pc' := by rfl) : Rn G Ga Y kx d b pc ls (.int y :: .int x :: st) I := by
  subst hp
  intro p e R s m args below meth c H locs cells slots tc ts Z F hk lsA hl
  exact lv_ishr F.1.1 F.1.2.1 hd (k p e R s m args below meth c H locs cells slots tc ts Z F hk lsA hl)
theorem Rn.iushr {x y : Int32} (hd : decode Y.2.1 pc = .ok (.iushr, 1)) (k : Rn G Ga Y kx d b pc' ls (.int (x.toUInt32 >>> (y.toUInt32 &&& Int32.toUInt32 31)).toInt32 :: st) I) (hp : pc + 1 = pc' := by rfl) : Rn G Ga Y kx d b pc ls (.int y :: .int x :: st) I := by
  subst hp
  intro p e R s m args below meth c H locs cells slots tc ts Z F hk lsA hl
  exact lv_iushr F.1.1 F.1.2.1 hd rfl (k p e R s m args below meth c H locs cells slots tc ts Z F hk lsA hl)
theorem Rn.i2b {x : Int32} (hd : decode Y.2.1 pc = .ok (.i2b, 1)) (k : Rn G Ga Y kx d b pc' ls (.int x.toInt8.toInt32 :: st) I) (hp : pc + 1 = pc' := by rfl) : Rn G Ga Y kx d b pc ls (.int x :: st) I := by
  subst hp
  intro p e R s m args below meth c H locs cells slots tc ts Z F hk lsA hl
  exact lv_i2b F.1.1 F.1.2.1 hd rfl (k p e R s m args below meth c H locs cells slots tc ts Z F hk lsA hl)
theorem Rn.i2l {x : Int32} (hd : decode Y.2.1 pc = .ok (.i2l, 1)) (k : Rn G Ga Y kx d b pc' ls (.long x.toInt64 :: st) I) (hp : pc + 1 = pc' := by rfl) : Rn G Ga Y kx d b pc ls (.int x :: st) I := by
  subst hp
  intro p e R s m args below meth c H locs cells slots tc ts Z F hk lsA hl
  exact lv_i2l F.1.1 F.1.2.1 hd rfl (k p e R s m args below meth c H locs cells slots tc ts Z F hk lsA hl)
theorem Rn.dup {v : Value} (hd : decode Y.2.1 pc = .ok (.dup, 1)) (hc : v.category = 1) (k : Rn G Ga Y kx d b pc' ls (v :: v :: st) I) (hp : pc + 1 = pc' := by rfl) : Rn G Ga Y kx d b pc ls (v :: st) I := by
  subst hp
  intro p e R s m args below meth c H locs cells slots tc ts Z F hk lsA hl
  exact lv_dup F.1.1 F.1.2.1 hd (by rw [zr_cat]; exact hc) (k p e R s m args below meth c H locs cells slots tc ts Z F hk lsA hl)
theorem Rn.pop {v : Value} (hd : decode Y.2.1 pc = .ok (.pop, 1)) (hc : v.category = 1) (k : Rn G Ga Y kx d b pc' ls (st) I) (hp : pc + 1 = pc' := by rfl) : Rn G Ga Y kx d b pc ls (v :: st) I := by
  subst hp
  intro p e R s m args below meth c H locs cells slots tc ts Z F hk lsA hl
  exact lv_pop F.1.1 F.1.2.1 hd (by rw [zr_cat]; exact hc) (k p e R s m args below meth c H locs cells slots tc ts Z F hk lsA hl)
theorem Rn.dup2 {v w : Value} (hd : decode Y.2.1 pc = .ok (.dup2, 1)) (hc : v.category = 1) (hc2 : w.category = 1) (k : Rn G Ga Y kx d b pc' ls (v :: w :: v :: w :: st) I) (hp : pc + 1 = pc' := by rfl) : Rn G Ga Y kx d b pc ls (v :: w :: st) I := by
  subst hp
  intro p e R s m args below meth c H locs cells slots tc ts Z F hk lsA hl
  exact lv_dup2_11 F.1.1 F.1.2.1 hd (by rw [zr_cat]; exact hc) (by rw [zr_cat]; exact hc2) (k p e R s m args below meth c H locs cells slots tc ts Z F hk lsA hl)
theorem Rn.if_eq {x : Int32} {off : Int} {tgt : Nat} (hd : decode Y.2.1 pc = .ok (.ifCond .eq off, 3)) (ht : (pc : Int) + off = (tgt : Int)) (kt : x = 0 → Rn G Ga Y kx d b tgt ls st I) (kf : ¬ x = 0 → Rn G Ga Y kx d b pc' ls st I) (hp : pc + 3 = pc' := by rfl) : Rn G Ga Y kx d b pc ls (.int x :: st) I := by
  subst hp
  intro p e R s m args below meth c H locs cells slots tc ts Z F hk lsA hl
  exact lv_if_eq F.1.1 F.1.2.1 hd ht (fun q => kt q p e R s m args below meth c H locs cells slots tc ts Z F hk lsA hl) (fun q => kf q p e R s m args below meth c H locs cells slots tc ts Z F hk lsA hl)
theorem Rn.icmp_eq {x y : Int32} {off : Int} {tgt : Nat} (hd : decode Y.2.1 pc = .ok (.if_icmp .eq off, 3)) (ht : (pc : Int) + off = (tgt : Int)) (kt : x = y → Rn G Ga Y kx d b tgt ls st I) (kf : ¬ x = y → Rn G Ga Y kx d b pc' ls st I) (hp : pc + 3 = pc' := by rfl) : Rn G Ga Y kx d b pc ls (.int y :: .int x :: st) I := by
  subst hp
  intro p e R s m args below meth c H locs cells slots tc ts Z F hk lsA hl
  exact lv_icmp_eq F.1.1 F.1.2.1 hd ht (fun q => kt q p e R s m args below meth c H locs cells slots tc ts Z F hk lsA hl) (fun q => kf q p e R s m args below meth c H locs cells slots tc ts Z F hk lsA hl)
theorem Rn.if_ne {x : Int32} {off : Int} {tgt : Nat} (hd : decode Y.2.1 pc = .ok (.ifCond .ne off, 3)) (ht : (pc : Int) + off = (tgt : Int)) (kt : ¬ x = 0 → Rn G Ga Y kx d b tgt ls st I) (kf : x = 0 → Rn G Ga Y kx d b pc' ls st I) (hp : pc + 3 = pc' := by rfl) : Rn G Ga Y kx d b pc ls (.int x :: st) I := by
  subst hp
  intro p e R s m args below meth c H locs cells slots tc ts Z F hk lsA hl
  exact lv_if_ne F.1.1 F.1.2.1 hd ht (fun q => kt q p e R s m args below meth c H locs cells slots tc ts Z F hk lsA hl) (fun q => kf q p e R s m args below meth c H locs cells slots tc ts Z F hk lsA hl)
theorem Rn.icmp_ne {x y : Int32} {off : Int} {tgt : Nat} (hd : decode Y.2.1 pc = .ok (.if_icmp .ne off, 3)) (ht : (pc : Int) + off = (tgt : Int)) (kt : ¬ x = y → Rn G Ga Y kx d b tgt ls st I) (kf : x = y → Rn G Ga Y kx d b pc' ls st I) (hp : pc + 3 = pc' := by rfl) : Rn G Ga Y kx d b pc ls (.int y :: .int x :: st) I := by
  subst hp
  intro p e R s m args below meth c H locs cells slots tc ts Z F hk lsA hl
  exact lv_icmp_ne F.1.1 F.1.2.1 hd ht (fun q => kt q p e R s m args below meth c H locs cells slots tc ts Z F hk lsA hl) (fun q => kf q p e R s m args below meth c H locs cells slots tc ts Z F hk lsA hl)
theorem Rn.if_lt {x : Int32} {off : Int} {tgt : Nat} (hd : decode Y.2.1 pc = .ok (.ifCond .lt off, 3)) (ht : (pc : Int) + off = (tgt : Int)) (kt : x < 0 → Rn G Ga Y kx d b tgt ls st I) (kf : ¬ x < 0 → Rn G Ga Y kx d b pc' ls st I) (hp : pc + 3 = pc' := by rfl) : Rn G Ga Y kx d b pc ls (.int x :: st) I := by
  subst hp
  intro p e R s m args below meth c H locs cells slots tc ts Z F hk lsA hl
  exact lv_if_lt F.1.1 F.1.2.1 hd ht (fun q => kt q p e R s m args below meth c H locs cells slots tc ts Z F hk lsA hl) (fun q => kf q p e R s m args below meth c H locs cells slots tc ts Z F hk lsA hl)
theorem Rn.icmp_lt {x y : Int32} {off : Int} {tgt : Nat} (hd : decode Y.2.1 pc = .ok (.if_icmp .lt off, 3)) (ht : (pc : Int) + off = (tgt : Int)) (kt : x < y → Rn G Ga Y kx d b tgt ls st I) (kf : ¬ x < y → Rn G Ga Y kx d b pc' ls st I) (hp : pc + 3 = pc' := by rfl) : Rn G Ga Y kx d b pc ls (.int y :: .int x :: st) I := by
  subst hp
  intro p e R s m args below meth c H locs cells slots tc ts Z F hk lsA hl
  exact lv_icmp_lt F.1.1 F.1.2.1 hd ht (fun q => kt q p e R s m args below meth c H locs cells slots tc ts Z F hk lsA hl) (fun q => kf q p e R s m args below meth c H locs cells slots tc ts Z F hk lsA hl)
theorem Rn.if_ge {x : Int32} {off : Int} {tgt : Nat} (hd : decode Y.2.1 pc = .ok (.ifCond .ge off, 3)) (ht : (pc : Int) + off = (tgt : Int)) (kt : 0 ≤ x → Rn G Ga Y kx d b tgt ls st I) (kf : ¬ 0 ≤ x → Rn G Ga Y kx d b pc' ls st I) (hp : pc + 3 = pc' := by rfl) : Rn G Ga Y kx d b pc ls (.int x :: st) I := by
  subst hp
  intro p e R s m args below meth c H locs cells slots tc ts Z F hk lsA hl
  exact lv_if_ge F.1.1 F.1.2.1 hd ht (fun q => kt q p e R s m args below meth c H locs cells slots tc ts Z F hk lsA hl) (fun q => kf q p e R s m args below meth c H locs cells slots tc ts Z F hk lsA hl)
theorem Rn.icmp_ge {x y : Int32} {off : Int} {tgt : Nat} (hd : decode Y.2.1 pc = .ok (.if_icmp .ge off, 3)) (ht : (pc : Int) + off = (tgt : Int)) (kt : y ≤ x → Rn G Ga Y kx d b tgt ls st I) (kf : ¬ y ≤ x → Rn G Ga Y kx d b pc' ls st I) (hp : pc + 3 = pc' := by rfl) : Rn G Ga Y kx d b pc ls (.int y :: .int x :: st) I := by
  subst hp
  intro p e R s m args below meth c H locs cells slots tc ts Z F hk lsA hl
  exact lv_icmp_ge F.1.1 F.1.2.1 hd ht (fun q => kt q p e R s m args below meth c H locs cells slots tc ts Z F hk lsA hl) (fun q => kf q p e R s m args below meth c H locs cells slots tc ts Z F hk lsA hl)
theorem Rn.if_gt {x : Int32} {off : Int} {tgt : Nat} (hd : decode Y.2.1 pc = .ok (.ifCond .gt off, 3)) (ht : (pc : Int) + off = (tgt : Int)) (kt : 0 < x → Rn G Ga Y kx d b tgt ls st I) (kf : ¬ 0 < x → Rn G Ga Y kx d b pc' ls st I) (hp : pc + 3 = pc' := by rfl) : Rn G Ga Y kx d b pc ls (.int x :: st) I := by
  subst hp
  intro p e R s m args below meth c H locs cells slots tc ts Z F hk lsA hl
  exact lv_if_gt F.1.1 F.1.2.1 hd ht (fun q => kt q p e R s m args below meth c H locs cells slots tc ts Z F hk lsA hl) (fun q => kf q p e R s m args below meth c H locs cells slots tc ts Z F hk lsA hl)
theorem Rn.icmp_gt {x y : Int32} {off : Int} {tgt : Nat} (hd : decode Y.2.1 pc = .ok (.if_icmp .gt off, 3)) (ht : (pc : Int) + off = (tgt : Int)) (kt : y < x → Rn G Ga Y kx d b tgt ls st I) (kf : ¬ y < x → Rn G Ga Y kx d b pc' ls st I) (hp : pc + 3 = pc' := by rfl) : Rn G Ga Y kx d b pc ls (.int y :: .int x :: st) I := by
  subst hp
  intro p e R s m args below meth c H locs cells slots tc ts Z F hk lsA hl
  exact lv_icmp_gt F.1.1 F.1.2.1 hd ht (fun q => kt q p e R s m args below meth c H locs cells slots tc ts Z F hk lsA hl) (fun q => kf q p e R s m args below meth c H locs cells slots tc ts Z F hk lsA hl)
theorem Rn.if_le {x : Int32} {off : Int} {tgt : Nat} (hd : decode Y.2.1 pc = .ok (.ifCond .le off, 3)) (ht : (pc : Int) + off = (tgt : Int)) (kt : x ≤ 0 → Rn G Ga Y kx d b tgt ls st I) (kf : ¬ x ≤ 0 → Rn G Ga Y kx d b pc' ls st I) (hp : pc + 3 = pc' := by rfl) : Rn G Ga Y kx d b pc ls (.int x :: st) I := by
  subst hp
  intro p e R s m args below meth c H locs cells slots tc ts Z F hk lsA hl
  exact lv_if_le F.1.1 F.1.2.1 hd ht (fun q => kt q p e R s m args below meth c H locs cells slots tc ts Z F hk lsA hl) (fun q => kf q p e R s m args below meth c H locs cells slots tc ts Z F hk lsA hl)
theorem Rn.icmp_le {x y : Int32} {off : Int} {tgt : Nat} (hd : decode Y.2.1 pc = .ok (.if_icmp .le off, 3)) (ht : (pc : Int) + off = (tgt : Int)) (kt : x ≤ y → Rn G Ga Y kx d b tgt ls st I) (kf : ¬ x ≤ y → Rn G Ga Y kx d b pc' ls st I) (hp : pc + 3 = pc' := by rfl) : Rn G Ga Y kx d b pc ls (.int y :: .int x :: st) I := by
  subst hp
  intro p e R s m args below meth c H locs cells slots tc ts Z F hk lsA hl
  exact lv_icmp_le F.1.1 F.1.2.1 hd ht (fun q => kt q p e R s m args below meth c H locs cells slots tc ts Z F hk lsA hl) (fun q => kf q p e R s m args below meth c H locs cells slots tc ts Z F hk lsA hl)
theorem Rn.goto {off : Int} (tgt : Nat) (hd : decode Y.2.1 pc = .ok (.goto off, 3)) (ht : (pc : Int) + off = (tgt : Int)) (k : Rn G Ga Y kx d b tgt ls st I) : Rn G Ga Y kx d b pc ls st I := by
  intro p e R s m args below meth c H locs cells slots tc ts Z F hk lsA hl
  exact lv_goto F.1.1 F.1.2.1 hd ht (k p e R s m args below meth c H locs cells slots tc ts Z F hk lsA hl)
theorem Rn.ifnonnull {a : Nat} {off : Int} (tgt : Nat) (hd : decode Y.2.1 pc = .ok (.ifnonnull off, 3)) (ht : (pc : Int) + off = (tgt : Int)) (k : Rn G Ga Y kx d b tgt ls st I) : Rn G Ga Y kx d b pc ls (.ref a :: st) I := by
  intro p e R s m args below meth c H locs cells slots tc ts Z F hk lsA hl
  exact lv_ifnonnull F.1.1 F.1.2.1 hd ht (k p e R s m args below meth c H locs cells slots tc ts Z F hk lsA hl)
theorem Rn.ifnull {a : Nat} {off : Int} (hd : decode Y.2.1 pc = .ok (.ifnull off, 3)) (k : Rn G Ga Y kx d b pc' ls (st) I) (hp : pc + 3 = pc' := by rfl) : Rn G Ga Y kx d b pc ls (.ref a :: st) I := by
  subst hp
  intro p e R s m args below meth c H locs cells slots tc ts Z F hk lsA hl
  exact lv_ifnull F.1.1 F.1.2.1 hd (k p e R s m args below meth c H locs cells slots tc ts Z F hk lsA hl)
theorem Rn.stk (st' : List Value) (h : st = st') (k : Rn G Ga Y kx d b pc ls st' I) : Rn G Ga Y kx d b pc ls st I := h ▸ k
theorem Rn.hpp (J : Hi) (h : I = J) (k : Rn G Ga Y kx d b pc ls st J) : Rn G Ga Y kx d b pc ls st I := h ▸ k
theorem Rn.lcl (ls' : List (Option Value)) (h : ls = ls') (k : Rn G Ga Y kx d b pc ls' st I) : Rn G Ga Y kx d b pc ls st I := h ▸ k
theorem Rn.tableOut {dflt lo hi : Int} {offs : Array Int} {len : Nat} {x : Int32} (tgt : Nat) (hd : decode Y.2.1 pc = .ok (.tableswitch dflt lo hi offs, len)) (h : x.toInt < lo ∨ hi < x.toInt) (ht : (pc : Int) + dflt = (tgt : Int)) (k : Rn G Ga Y kx d b tgt ls st I) : Rn G Ga Y kx d b pc ls (.int x :: st) I := by
  intro p e R s m args below meth c H locs cells slots tc ts Z F hk lsA hl
  exact lv_tableOut F.1.1 F.1.2.1 hd h ht (k p e R s m args below meth c H locs cells slots tc ts Z F hk lsA hl)
theorem Rn.tableIn {dflt lo hi : Int} {offs : Array Int} {len : Nat} {x : Int32} {off : Int} (tgt : Nat) (hd : decode Y.2.1 pc = .ok (.tableswitch dflt lo hi offs, len)) (h1 : ¬ x.toInt < lo) (h2 : ¬ hi < x.toInt) (ho : offs[(x.toInt - lo).toNat]? = some off) (ht : (pc : Int) + off = (tgt : Int)) (k : Rn G Ga Y kx d b tgt ls st I) : Rn G Ga Y kx d b pc ls (.int x :: st) I := by
  intro p e R s m args below meth c H locs cells slots tc ts Z F hk lsA hl
  exact lv_tableIn F.1.1 F.1.2.1 hd h1 h2 ho ht (k p e R s m args below meth c H locs cells slots tc ts Z F hk lsA hl)
theorem Rn.lookup {dflt : Int} {ps : Array (Int × Int)} {len : Nat} {x : Int32} {off : Int} (tgt : Nat) (hd : decode Y.2.1 pc = .ok (.lookupswitch dflt ps, len)) (hs : (ps.toList.zip (ps.toList.drop 1)).all (fun (a, next) => a.1 < next.1) = true) (ho : Op.lookupswitch.offset ps.toList dflt x.toInt = off) (ht : (pc : Int) + off = (tgt : Int)) (k : Rn G Ga Y kx d b tgt ls st I) : Rn G Ga Y kx d b pc ls (.int x :: st) I := by
  intro p e R s m args below meth c H locs cells slots tc ts Z F hk lsA hl
  exact lv_lookup F.1.1 F.1.2.1 hd hs ho ht (k p e R s m args below meth c H locs cells slots tc ts Z F hk lsA hl)
/-! fields, arrays, calls, ends -/
/-- the field of own's pool entry idx is field k of class ci -/
def zFd (own : String) (idx ci k : Nat) : Prop := ∃ (C : String) (T : u_T) (N : Nat) (ref : String), vwCl[ci]? = some (C, T, N) ∧ k < N ∧ (∀ w ∈ u_ws C T N, w ∈ WA) ∧ (ref = (T k).1 ∨ Cond.sameField ref (T k).1 (T k).2.1 (T k).2.2.1 ∈ WA) ∧
  (Cond.fieldLink own idx ref (T k).2.1 (T k).2.2.1 ∈ WA ∨ ∃ host, (own, idx, ref, (T k).2.1, (T k).2.2.1, host) ∈ zNl)
/-- .. and may be written: an int, or a boolean -/
def zFp (own : String) (idx ci k : Nat) (ty : FieldType) : Prop := ∃ (C : String) (T : u_T) (N : Nat) (ref : String) (ty0 : Nat → FieldType), vwCl[ci]? = some (C, T, N) ∧ k < N ∧ (∀ w ∈ u_ws C T N, w ∈ WA) ∧ (ref = (T k).1 ∨ Cond.sameField ref (T k).1 (T k).2.1 (T k).2.2.1 ∈ WA) ∧
  (Cond.fieldLink own idx ref (T k).2.1 (T k).2.2.1 ∈ WA ∨ ∃ host, (own, idx, ref, (T k).2.1, (T k).2.2.1, host) ∈ zNl) ∧ (∀ k, k < N → parseFieldDescriptor (T k).2.2.1 = some (ty0 k)) ∧ (∀ a, a < N → ∀ b, b < N → a ≠ b → (T a).2.1 ≠ (T b).2.1) ∧ (T k).2.2.2 = false ∧ parseFieldDescriptor (T k).2.2.1 = some ty
theorem zsame {ref : String} {q : String × String × String × Bool} {s : State} {args : Array Value} (hts : ∀ w ∈ WA, w.before args s = true) (h : ref = q.1 ∨ Cond.sameField ref q.1 q.2.1 q.2.2.1 ∈ WA) : ∀ x, s.fieldFound? q.1 q.2.1 q.2.2.1 = some x → s.fieldFound? ref q.2.1 q.2.2.1 = some x := by
  intro x hx
  rcases h with h | h
  · rw [h]; exact hx
  · exact u_same (hts _ h) x hx
theorem Rn.get {idx ci j a : Nat} {fl : List (Option (Option Nat))} {x : Option (Option Nat)} {w : Value} (hd : decode Y.2.1 pc = .ok (.getfield idx, 3)) (hF : zFd Y.1.cls idx ci j) (hG : Ga[a]? = some (.inl (ci, fl))) (hj : fl[j]? = some x)
    (hw : zfv (gad G) (I a j) x = zr (gad G) w) (k : Rn G Ga Y kx d b pc' ls (w :: st) I) (hp : pc + 3 = pc' := by rfl) : Rn G Ga Y kx d b pc ls (.ref a :: st) I := by
  subst hp
  obtain ⟨C, T, N, ref, h1, h2, h3, h4, h5⟩ := hF
  intro p e R s m args below meth c H locs cells slots tc ts Z F hk lsA hl
  have hv : ((fl.mapIdx (fun q y => zfv (gad G) (I a q) y)) : List Value)[j]? = some (zr (gad G) w) := by
    rw [List.getElem?_mapIdx, hj]
    simp [hw]
  have kk := k p e R s m args below meth c H locs cells slots tc ts Z F hk lsA hl
  rcases h5 with h5 | ⟨host, h5⟩
  · exact va_get F.1.1 F.1.2.1 F.1.2.2.2.2.2.2.1 h3 F.1.2.2.2.2.2.1 F.1.2.2.2.2.2.2.2.1 F.2.1.1 a (zws_get hG) h1 j h2 (F.1.2.2.2.2.2.2.1 _ h5) (zsame F.1.2.2.2.2.2.2.1 h4) hv hd kk
  · exact va_getN F.1.1 F.1.2.1 F.1.2.2.2.2.2.2.1 h3 F.1.2.2.2.2.2.1 F.1.2.2.2.2.2.2.2.1 F.2.1.1 a (zws_get hG) h1 j h2 (va_Nw.use rfl (F.1.2.2.2.2.2.2.2.2.1 _ h5)) (zsame F.1.2.2.2.2.2.2.1 h4) hv hd kk
theorem Rn.getI {idx ci j a : Nat} {fl : List (Option (Option Nat))} (hd : decode Y.2.1 pc = .ok (.getfield idx, 3)) (hF : zFd Y.1.cls idx ci j) (hG : Ga[a]? = some (.inl (ci, fl))) (hj : fl[j]? = some none)
    (k : Rn G Ga Y kx d b pc' ls (.int (I a j) :: st) I) (hp : pc + 3 = pc' := by rfl) : Rn G Ga Y kx d b pc ls (.ref a :: st) I := Rn.get hd hF hG hj rfl k hp
theorem Rn.getR {idx ci j a r : Nat} {fl : List (Option (Option Nat))} (hd : decode Y.2.1 pc = .ok (.getfield idx, 3)) (hF : zFd Y.1.cls idx ci j) (hG : Ga[a]? = some (.inl (ci, fl))) (hj : fl[j]? = some (some (some r)))
    (k : Rn G Ga Y kx d b pc' ls (.ref r :: st) I) (hp : pc + 3 = pc' := by rfl) : Rn G Ga Y kx d b pc ls (.ref a :: st) I := Rn.get hd hF hG hj rfl k hp
theorem Rn.put {idx ci j a : Nat} {fl : List (Option (Option Nat))} {ty : FieldType} {v : Int32} (hd : decode Y.2.1 pc = .ok (.putfield idx, 3)) (hF : zFp Y.1.cls idx ci j ty) (hG : Ga[a]? = some (.inl (ci, fl))) (hj : fl[j]? = some none)
    (hn : narrow ty (.int v) = .int v ∧ fits ty (.int v) = true) (k : Rn G Ga Y kx d b pc' ls st (zup I a j v)) (hp : pc + 3 = pc' := by rfl) : Rn G Ga Y kx d b pc ls (.int v :: .ref a :: st) I := by
  subst hp
  obtain ⟨C, T, N, ref, ty0, h1, h2, h3, h4, h5, h6, h7, h8, h9⟩ := hF
  intro p e R s m args below meth c H locs cells slots tc ts Z F hk lsA hl
  obtain ⟨F1, ⟨hP, hD, hS⟩, F3⟩ := F
  have hlen : j < ((fl.mapIdx (fun q y => zfv (gad G) (I a q) y)) : List Value).length := by
    rw [List.length_mapIdx]; exact (List.getElem?_eq_some_iff.mp hj).1
  have kk : ∀ (H1 : Heap) (locs1 : List Loc), va_P (gD G) vwCl ((zws Ga (gad G) (gA G) I).set a (gad G a, .inr (ci, (fl.mapIdx (fun q y => zfv (gad G) (I a q) y)).set j (.int v)))) H1 → va_D (zA G Ga s.heap.size) ((zws Ga (gad G) (gA G) I).set a (gad G a, .inr (ci, (fl.mapIdx (fun q y => zfv (gad G) (I a q) y)).set j (.int v)))) → va_S (zA G Ga s.heap.size) s.heap H1 locs1 → W p (gL G) e R s m args below meth c H1 locs1 cells slots Z (F0 m (pc + 3) lsA (st.map (zr (gad G)))) := by
    intro H1 locs1 hP1 hD1 hS1
    rw [zws_set hG (upd (I a) j v) (zcell_fset (dA := gA G) hj v)] at hP1 hD1
    exact k p e R s m args below meth c H1 locs1 cells slots tc ts Z ⟨F1, ⟨hP1, hD1, hS1⟩, F3⟩ hk lsA hl
  rcases h5 with h5 | ⟨host, h5⟩
  · exact va_put F1.1 F1.2.1 F1.2.2.2.2.2.2.1 h3 ty0 h6 h7 F1.2.2.2.2.2.1 F1.2.2.2.2.2.2.2.1 hP hD hS a (zws_get hG) h1 j h2 (F1.2.2.2.2.2.2.1 _ h5) (zsame F1.2.2.2.2.2.2.1 h4) h8 h9 hn.1 hn.2 hlen hd kk
  · exact va_putN F1.1 F1.2.1 F1.2.2.2.2.2.2.1 h3 ty0 h6 h7 F1.2.2.2.2.2.1 F1.2.2.2.2.2.2.2.1 hP hD hS a (zws_get hG) h1 j h2 (va_Nw.use rfl (F1.2.2.2.2.2.2.2.2.1 _ h5)) (zsame F1.2.2.2.2.2.2.1 h4) h8 h9 hn.1 hn.2 hlen hd kk
theorem Rn.putI {idx ci j a : Nat} {fl : List (Option (Option Nat))} {v : Int32} (hd : decode Y.2.1 pc = .ok (.putfield idx, 3)) (hF : zFp Y.1.cls idx ci j .int) (hG : Ga[a]? = some (.inl (ci, fl))) (hj : fl[j]? = some none)
    (k : Rn G Ga Y kx d b pc' ls st (zup I a j v)) (hp : pc + 3 = pc' := by rfl) : Rn G Ga Y kx d b pc ls (.int v :: .ref a :: st) I := Rn.put hd hF hG hj ⟨rfl, rfl⟩ k hp
theorem Rn.iald {a n : Nat} {f : Nat → Option Nat} {i : Int32} (hd : decode Y.2.1 pc = .ok (.iaload, 1)) (hG : Ga[a]? = some (.inr (.int, n, f))) (hi : vp_in i n) (k : Rn G Ga Y kx d b pc' ls (.int (I a i.toNatClampNeg) :: st) I) (hp : pc + 1 = pc' := by rfl) : Rn G Ga Y kx d b pc ls (.int i :: .ref a :: st) I := by
  subst hp
  intro p e R s m args below meth c H locs cells slots tc ts Z F hk lsA hl
  exact va_iald F.1.1 F.1.2.1 F.1.2.2.2.2.2.2.2.1 F.2.1.1 a 0 (zws_get hG) rfl hi hd (k p e R s m args below meth c H locs cells slots tc ts Z F hk lsA hl)
theorem Rn.bald {a n : Nat} {f : Nat → Option Nat} {i : Int32} (hd : decode Y.2.1 pc = .ok (.baload, 1)) (hG : Ga[a]? = some (.inr (.byte, n, f))) (hi : vp_in i n) (k : Rn G Ga Y kx d b pc' ls (.int (I a i.toNatClampNeg) :: st) I) (hp : pc + 1 = pc' := by rfl) : Rn G Ga Y kx d b pc ls (.int i :: .ref a :: st) I := by
  subst hp
  intro p e R s m args below meth c H locs cells slots tc ts Z F hk lsA hl
  exact va_bald F.1.1 F.1.2.1 F.1.2.2.2.2.2.2.2.1 F.2.1.1 a 1 (zws_get hG) rfl hi hd (k p e R s m args below meth c H locs cells slots tc ts Z F hk lsA hl)
theorem Rn.aald {a n r : Nat} {f : Nat → Option Nat} {i : Int32} (hd : decode Y.2.1 pc = .ok (.aaload, 1)) (hG : Ga[a]? = some (.inr (.object "BorrowedLuck$Coast", n, f))) (hi : vp_in i n) (hr : f i.toNatClampNeg = some r) (k : Rn G Ga Y kx d b pc' ls (.ref r :: st) I) (hp : pc + 1 = pc' := by rfl) : Rn G Ga Y kx d b pc ls (.int i :: .ref a :: st) I := by
  subst hp
  intro p e R s m args below meth c H locs cells slots tc ts Z F hk lsA hl
  have kk := k p e R s m args below meth c H locs cells slots tc ts Z F hk lsA hl
  exact va_aldq F.1.1 F.1.2.1 F.1.2.2.2.2.2.2.2.1 F.2.1.1 a 3 (zws_get hG) rfl hi hd (by
    show W p (gL G) e R s m args below meth c H locs cells slots Z (F0 m (pc + 1) lsA (va_rf ((f i.toNatClampNeg).map (gad G)) :: st.map (zr (gad G))))
    rw [hr]; exact kk)
theorem Rn.iast {a n : Nat} {f : Nat → Option Nat} {i x : Int32} (hd : decode Y.2.1 pc = .ok (.iastore, 1)) (hG : Ga[a]? = some (.inr (.int, n, f))) (hi : vp_in i n) (k : Rn G Ga Y kx d b pc' ls st (zup I a i.toNatClampNeg x)) (hp : pc + 1 = pc' := by rfl) : Rn G Ga Y kx d b pc ls (.int x :: .int i :: .ref a :: st) I := by
  subst hp
  intro p e R s m args below meth c H locs cells slots tc ts Z F hk lsA hl
  obtain ⟨F1, ⟨hP, hD, hS⟩, F3⟩ := F
  refine va_iast F1.1 F1.2.1 F1.2.2.2.2.2.2.2.1 hP hD hS a 0 (zws_get hG) rfl hi hd (fun H1 locs1 hP1 hD1 hS1 => ?_)
  have e9 := zws_set (ad := gad G) (dA := gA G) (I := I) hG (upd (I a) i.toNatClampNeg x) (e := .inl (gA G .int, n, .inl (upd (I a) i.toNatClampNeg x))) rfl
  have hP1 : va_P (gD G) vwCl ((zws Ga (gad G) (gA G) I).set a (gad G a, .inl (gA G .int, n, .inl (upd (I a) i.toNatClampNeg x)))) H1 := hP1
  have hD1 : va_D (zA G Ga s.heap.size) ((zws Ga (gad G) (gA G) I).set a (gad G a, .inl (gA G .int, n, .inl (upd (I a) i.toNatClampNeg x)))) := hD1
  rw [e9] at hP1 hD1
  exact k p e R s m args below meth c H1 locs1 cells slots tc ts Z ⟨F1, ⟨hP1, hD1, hS1⟩, F3⟩ hk lsA hl
theorem Rn.bast {a n : Nat} {f : Nat → Option Nat} {i x : Int32} (hd : decode Y.2.1 pc = .ok (.bastore, 1)) (hG : Ga[a]? = some (.inr (.byte, n, f))) (hi : vp_in i n) (k : Rn G Ga Y kx d b pc' ls st (zup I a i.toNatClampNeg (vp_nar .byte x))) (hp : pc + 1 = pc' := by rfl) : Rn G Ga Y kx d b pc ls (.int x :: .int i :: .ref a :: st) I := by
  subst hp
  intro p e R s m args below meth c H locs cells slots tc ts Z F hk lsA hl
  obtain ⟨F1, ⟨hP, hD, hS⟩, F3⟩ := F
  refine va_bast F1.1 F1.2.1 F1.2.2.2.2.2.2.2.1 hP hD hS a 1 (zws_get hG) rfl hi hd (fun H1 locs1 hP1 hD1 hS1 => ?_)
  have e9 := zws_set (ad := gad G) (dA := gA G) (I := I) hG (upd (I a) i.toNatClampNeg (vp_nar .byte x)) (e := .inl (gA G .byte, n, .inl (upd (I a) i.toNatClampNeg (vp_nar .byte x)))) rfl
  have hP1 : va_P (gD G) vwCl ((zws Ga (gad G) (gA G) I).set a (gad G a, .inl (gA G .byte, n, .inl (upd (I a) i.toNatClampNeg (vp_nar .byte x))))) H1 := hP1
  have hD1 : va_D (zA G Ga s.heap.size) ((zws Ga (gad G) (gA G) I).set a (gad G a, .inl (gA G .byte, n, .inl (upd (I a) i.toNatClampNeg (vp_nar .byte x))))) := hD1
  rw [e9] at hP1 hD1
  exact k p e R s m args below meth c H1 locs1 cells slots tc ts Z ⟨F1, ⟨hP1, hD1, hS1⟩, F3⟩ hk lsA hl
/-- returns -/
theorem Rn.iret {Q : Rs → Hi → Prop} {v : Int32} (hd : decode Y.2.1 pc = .ok (.ireturn, 1)) (hr : Y.2.2.2 = some .int) (h : Q (.inl (some (.int v))) I) : Rn G Ga Y (kM G Ga Q) d b pc ls [.int v] I := by
  intro p e R s m args below meth c H locs cells slots tc ts Z F hk lsA hl
  obtain ⟨F1, ⟨hP, hD, hS⟩, F3, F4, F5, F6, F7, F8⟩ := F
  obtain ⟨ht, rfl⟩ := hk
  refine W.widen (k := tc) (n := ts) (by omega) (by omega) (vx_ret ?_)
  have hlocks : meth.locks = false := F1.2.2.2.2.1
  exact W.iret F1.1 F1.2.1 (F1.2.2.2.1.trans hr) (fun t h1 _ => ⟨⟨some (.int v), I, rfl, h, by rw [h1]; exact hP⟩, by rw [h1]; exact hS.1, by rw [h1]; exact hS.2.1⟩) hS.2.2 hd hlocks
theorem Rn.zret {Q : Rs → Hi → Prop} {v : Int32} (hd : decode Y.2.1 pc = .ok (.ireturn, 1)) (hr : Y.2.2.2 = some .boolean) (hv : narrow .boolean (.int v) = .int v) (h : Q (.inl (some (.int v))) I) : Rn G Ga Y (kM G Ga Q) d b pc ls [.int v] I := by
  intro p e R s m args below meth c H locs cells slots tc ts Z F hk lsA hl
  obtain ⟨F1, ⟨hP, hD, hS⟩, F3, F4, F5, F6, F7, F8⟩ := F
  obtain ⟨ht, rfl⟩ := hk
  refine W.widen (k := tc) (n := ts) (by omega) (by omega) (vx_ret ?_)
  have hlocks : meth.locks = false := F1.2.2.2.2.1
  exact W.zret F1.1 F1.2.1 (F1.2.2.2.1.trans hr) hv (fun t h1 _ => ⟨⟨some (.int v), I, rfl, h, by rw [h1]; exact hP⟩, by rw [h1]; exact hS.1, by rw [h1]; exact hS.2.1⟩) hS.2.2 hd hlocks
theorem Rn.vret {Q : Rs → Hi → Prop} (hd : decode Y.2.1 pc = .ok (.return_, 1)) (hr : Y.2.2.2 = none) (h : Q (.inl none) I) : Rn G Ga Y (kM G Ga Q) d b pc ls [] I := by
  intro p e R s m args below meth c H locs cells slots tc ts Z F hk lsA hl
  obtain ⟨F1, ⟨hP, hD, hS⟩, F3, F4, F5, F6, F7, F8⟩ := F
  obtain ⟨ht, rfl⟩ := hk
  refine W.widen (k := tc) (n := ts) (by omega) (by omega) (vx_ret ?_)
  have hlocks : meth.locks = false := F1.2.2.2.2.1
  exact W.vret F1.1 F1.2.1 (F1.2.2.2.1.trans hr) (fun t h1 _ => ⟨⟨none, I, rfl, h, by rw [h1]; exact hP⟩, by rw [h1]; exact hS.1, by rw [h1]; exact hS.2.1⟩) hS.2.2 hd hlocks
/-- a call's words -/
def zMb (own : String) (idx : Nat) (y : Ym) (n : Nat) : Prop := Cond.methodLink own idx y.1 ∈ WA ∧ Cond.initialized y.1.cls ∈ WA ∧ Cond.code y.1 y.2.1 y.2.2.1 y.2.2.2 ∈ WA ∧ y.2.2.1 ≤ 21 ∧ (y.1.cls ≠ "java/lang/invoke/MethodHandle" ∧ y.1.cls ≠ "java/lang/invoke/VarHandle" ∧ (parseMethodDescriptor y.1.desc).map (fun q => q.parameters.length) = some n)
def zMv (own : String) (idx : Nat) (C : String) (y : Ym) (n : Nat) : Prop := zMb own idx y n ∧ Cond.instanceMethod y.1 ∈ WA ∧ Cond.selects C y.1 y.1 ∈ WA
def zMs (own : String) (idx : Nat) (y : Ym) (n : Nat) : Prop := zMb own idx y n ∧ Cond.static y.1 ∈ WA
theorem zgood {y : Ym} (h : Cond.code y.1 y.2.1 y.2.2.1 y.2.2.2 ∈ WA) : GoodIn WA (zwy y) := by
  have hw : ∀ w ∈ WA, w ∈ WA ∧ ((w.onTables && w.keeps) = true ∨ ∃ ty, w = .arrayClass ty) := fun w hw => ⟨hw, good_of_word (List.mem_filter.mp hw).2⟩
  intro w h2
  rcases List.mem_cons.mp h2 with h3 | h3
  · rw [h3]; exact hw _ h
  · exact hw _ h3
theorem zcallB {own : String} {idx n d mc : Nat} {y : Ym} {R : Room} {s : State} {args : Array Value} (hts : ∀ w ∈ WA, w.before args s = true) (h : zMb own idx y n) (h1 : d + 1 + 8 ≤ R.frames) (h2 : 40 * (d + 1) + 200 ≤ R.locals) :
    CallB R s args own idx y.1 y.2.1 y.2.2.1 y.2.2.2 (zwy y) (zrm d mc) mc (6 * mc) n :=
  callB_of n hts (zgood h.2.2.1) rfl rfl rfl (hts _ h.2.1) (hts _ h.1) h.2.2.2.2 ⟨by show d + 8 + 1 ≤ _; omega, by have := h.2.2.2.1; show 8 + (y.2.2.1 + 11) + (40 * d + 200) ≤ _; omega⟩
theorem zsum (ad : Nat → Nat) (l : List Value) : ((l.map (zr ad)).map fun v => v.category).sum = (l.map fun v => v.category).sum := by
  rw [List.map_map]
  congr 1
  exact List.map_congr_left (fun v _ => zr_cat ad v)
theorem zsub {G : Gx} {Ga : List Shp} {a b : Nat} (h : a ≤ b) : ∀ q, zA G Ga b q → zA G Ga a q := fun q hq => hq.elim Or.inl (fun h2 => Or.inr (Nat.le_trans h h2))
/-- behind a call that ran: returned -/
theorem zafter {rest : List Value} {Rr : Rs → Hi → Prop} {mc b2 d2 : Nat} {p : Program} {e : Env} {R : Room} {s : State} {m : MethodId} {args : Array Value} {below : List Frame} {meth : Method} {c : Code} {H : Heap} {locs : List Loc} {cells slots tc ts : Nat} {Z : State → Prop} {lsA : Array Slot} {stA : List Value} {a9 : Array Value}
    (F : zFr G Ga Y d2 (b2 + mc) I p R s m args meth c H locs cells slots tc ts) (hk : kx s args below c tc ts Z) (hl : lv_has lsA Y.2.2.1 (zl (gad G) 0 ls))
    (hr : vx_Run p (gL G) e R s m args below meth c H locs cells slots mc (6 * mc) (F0 m pc lsA stA) (rest.map (zr (gad G))) (zQ G Ga Rr H.size a9) (zX G Ga Rr H.size) (zA G Ga H.size))
    (hx : ∀ (E : String) (J : Hi), Rr (.inr E) J → ∀ (H1 : Heap) (locs1 : List Loc) (q : Addr) (ce : Cell), zFr G Ga Y d2 b2 J p R s m args meth c H1 locs1 (cells + mc) (slots + 6 * mc) tc ts → H1[q]? = some ce → ce.vm = .none → s.vm.findClass E = some ce.cls → vx_W p (gL G) e R s m args below meth c H1 locs1 (cells + mc) (slots + 6 * mc) Z (F0 m pc lsA (rest.map (zr (gad G)))) q)
    (k : ∀ (v : Option Value) (J : Hi), Rr (.inl v) J → Rn G Ga Y kx d2 b2 (pc + 3) ls (v.toList ++ rest) J) : W p (gL G) e R s m args below meth c H locs cells slots Z (F0 m pc lsA stA) := by
  obtain ⟨F1, ⟨hP, hD, hS⟩, F3, F4, F5, F6, F7, F8⟩ := F
  intro T hT X
  have hsz : s.heap.size ≤ H.size := hS.1
  rcases hr T hT X with ⟨v, st₀, t, T', L, h0, X', hL, e1, e2, ⟨⟨v', J, hv, hq, hPJ⟩, hF⟩, go⟩ | ⟨q, st₀, t, T', L, E, ce, h0, X', hL, e1, e2, ⟨⟨J, hq, hPJ⟩, hF⟩, hce, hcv, hcl, go⟩
  · cases hv
    obtain ⟨k1, k2, k3⟩ := vx_keep h0 e1 hS (fun q _ h => zsub hsz q h) (fun q h => zsub hsz q h) hL hF
    have F9 : zFr G Ga Y d2 b2 J p R s m args meth c T'.heap (locs ++ L) (cells + mc) (slots + 6 * mc) tc ts := ⟨F1, ⟨by rw [e1]; exact hPJ, zA_D2 hD, k3⟩, F3, F4, by omega, by omega, F7, F8⟩
    obtain ⟨t2, a1, b1⟩ := k v' J hq p e R s m args below meth c T'.heap (locs ++ L) (cells + mc) (slots + 6 * mc) tc ts Z F9 hk lsA hl T' rfl X'
    refine ⟨t2, go t2 ?_, b1⟩
    cases v' with
    | none => exact a1
    | some w => exact a1
  · obtain ⟨k1, k2, k3⟩ := vx_keep h0 e1 hS (fun q _ h => zsub hsz q h) (fun q h => zsub hsz q h) hL hF
    have F9 : zFr G Ga Y d2 b2 J p R s m args meth c T'.heap (locs ++ L) (cells + mc) (slots + 6 * mc) tc ts := ⟨F1, ⟨by rw [e1]; exact hPJ, zA_D2 hD, k3⟩, F3, F4, by omega, by omega, F7, F8⟩
    obtain ⟨t2, a1, b1⟩ := hx E J hq T'.heap (locs ++ L) q ce F9 (by rw [e1]; exact hce) hcv hcl T' rfl X'
    exact ⟨t2, go.trans a1, b1⟩
theorem zpre {vs : List Value} {I : Hi} {p : Program} {R : Room} {s : State} {m : MethodId} {args : Array Value} {meth : Method} {c : Code} {H : Heap} {locs : List Loc} {cells slots tc ts d2 b2 : Nat} (F : zFr G Ga Y d2 b2 I p R s m args meth c H locs cells slots tc ts) (U : State) (hU : U.heap = H) (hW : s.WarmedH U.vm) :
    zPc G Ga vs I H.size (vs.map (zr (gad G))).toArray U := by
  obtain ⟨F1, ⟨hP, hD, hS⟩, F3⟩ := F
  refine ⟨rfl, by rw [hU], by rw [hU]; exact hP, zA_D hD, ?_⟩
  have hK := zK.on (B := zA G Ga H.size) hW hS (fun q h => zsub hS.1 q h) F1.2.2.2.2.2.2.2
  rw [hU]; exact hK
theorem Rn.callVx {C : String} {T : u_T} {N ci idx a n mc : Nat} {fl : List (Option (Option Nat))} {As rest : List Value} {y : Ym} {Rr : Rs → Hi → Prop} (hd : decode Y.2.1 pc = .ok (.invokevirtual idx, 3)) (hM : zMv Y.1.cls idx C y n) (hG : Ga[a]? = some (.inl (ci, fl))) (hC : vwCl[ci]? = some (C, T, N))
    (hst : st = As.reverse ++ .ref a :: rest) (hn : As.length = n) (hr : (rest.map fun v => v.category).sum ≤ 8) (hct : Ct G Ga y d mc (.ref a :: As) I Rr)
    (hx : ∀ (E : String) (J : Hi), Rr (.inr E) J → ∀ (p : Program) (e : Env) (R : Room) (s : State) (m : MethodId) (args : Array Value) (below : List Frame) (meth : Method) (c : Code) (H : Heap) (locs : List Loc) (cells slots tc ts : Nat) (Z : State → Prop) (q : Addr) (ce : Cell) (lsA : Array Slot), zFr G Ga Y (d + 1) b J p R s m args meth c H locs cells slots tc ts → kx s args below c tc ts Z → lv_has lsA Y.2.2.1 (zl (gad G) 0 ls) → H[q]? = some ce → ce.vm = .none → s.vm.findClass E = some ce.cls → vx_W p (gL G) e R s m args below meth c H locs cells slots Z (F0 m pc lsA (rest.map (zr (gad G)))) q)
    (k : ∀ (v : Option Value) (J : Hi), Rr (.inl v) J → Rn G Ga Y kx (d + 1) b pc' ls (v.toList ++ rest) J) (hp : pc + 3 = pc' := by rfl) : Rn G Ga Y kx (d + 1) (b + mc) pc ls st I := by
  subst hp
  subst hst
  intro p e R s m args below meth c H locs cells slots tc ts Z F hk lsA hl
  have F0' := F
  obtain ⟨F1, ⟨hP, hD, hS⟩, F3, F4, F5, F6, F7, F8⟩ := F
  have run := vx_runV (g := F0 m pc lsA ((As.reverse ++ Value.ref a :: rest).map (zr (gad G)))) (As := As.map (zr (gad G))) (rest := rest.map (zr (gad G))) (cells := cells) (slots := slots) (locs := locs) (e := e) (below := below) (meth := meth) ⟨F1.1, F1.2.1, F1.2.2.1, F1.2.2.2.2.2.1, F1.2.2.2.2.2.2.1⟩ (hct H.size)
    (⟨zcallB F1.2.2.2.2.2.2.1 hM.1 F3 F4, F1.2.2.2.2.2.2.1 _ hM.2.1, F1.2.2.2.2.2.2.1 _ hM.2.2⟩ : CallW R s args Y.1.cls C idx y.1 y.2.1 y.2.2.1 y.2.2.2 (zwy y) (zrm d mc) mc (6 * mc) n)
    (⟨zPc_blind, va_recv F1.2.2.2.2.2.2.2.1 hP hC (zws_get hG), fun U hU hW => zpre F0' U hU hW⟩) rfl (by rw [List.length_map]; exact hn) hl.1 (by simp [zr, List.map_reverse]) (lv_room (by rw [zsum]; exact hr)) hd ⟨by omega, by omega⟩
  exact zafter F0' hk hl run (fun E J hE H1 locs1 q ce F9 h1 h2 h3 => hx E J hE p e R s m args below meth c H1 locs1 _ _ tc ts Z q ce lsA F9 hk hl h1 h2 h3) k
theorem Rn.callSx {idx n mc : Nat} {As rest : List Value} {y : Ym} {Rr : Rs → Hi → Prop} (hd : decode Y.2.1 pc = .ok (.invokestatic idx, 3)) (hM : zMs Y.1.cls idx y n)
    (hst : st = As.reverse ++ rest) (hn : As.length = n) (hr : (rest.map fun v => v.category).sum ≤ 8) (hct : Ct G Ga y d mc As I Rr)
    (hx : ∀ (E : String) (J : Hi), Rr (.inr E) J → ∀ (p : Program) (e : Env) (R : Room) (s : State) (m : MethodId) (args : Array Value) (below : List Frame) (meth : Method) (c : Code) (H : Heap) (locs : List Loc) (cells slots tc ts : Nat) (Z : State → Prop) (q : Addr) (ce : Cell) (lsA : Array Slot), zFr G Ga Y (d + 1) b J p R s m args meth c H locs cells slots tc ts → kx s args below c tc ts Z → lv_has lsA Y.2.2.1 (zl (gad G) 0 ls) → H[q]? = some ce → ce.vm = .none → s.vm.findClass E = some ce.cls → vx_W p (gL G) e R s m args below meth c H locs cells slots Z (F0 m pc lsA (rest.map (zr (gad G)))) q)
    (k : ∀ (v : Option Value) (J : Hi), Rr (.inl v) J → Rn G Ga Y kx (d + 1) b pc' ls (v.toList ++ rest) J) (hp : pc + 3 = pc' := by rfl) : Rn G Ga Y kx (d + 1) (b + mc) pc ls st I := by
  subst hp
  subst hst
  intro p e R s m args below meth c H locs cells slots tc ts Z F hk lsA hl
  have F0' := F
  obtain ⟨F1, ⟨hP, hD, hS⟩, F3, F4, F5, F6, F7, F8⟩ := F
  have run := vx_runS (g := F0 m pc lsA ((As.reverse ++ rest).map (zr (gad G)))) (As := As.map (zr (gad G))) (rest := rest.map (zr (gad G))) (cells := cells) (slots := slots) (locs := locs) (e := e) (below := below) (meth := meth) ⟨F1.1, F1.2.1, F1.2.2.1, F1.2.2.2.2.2.1, F1.2.2.2.2.2.2.1⟩ (hct H.size)
    (⟨zcallB F1.2.2.2.2.2.2.1 hM.1 F3 F4, F1.2.2.2.2.2.2.1 _ hM.2⟩ : CallB R s args Y.1.cls idx y.1 y.2.1 y.2.2.1 y.2.2.2 (zwy y) (zrm d mc) mc (6 * mc) n ∧ _)
    (⟨zPc_blind, fun U hU hW => zpre F0' U hU hW⟩) rfl (by rw [List.length_map]; exact hn) hl.1 (by simp [zr, List.map_reverse]) (lv_room (by rw [zsum]; exact hr)) hd ⟨by omega, by omega⟩
  exact zafter F0' hk hl run (fun E J hE H1 locs1 q ce F9 h1 h2 h3 => hx E J hE p e R s m args below meth c H1 locs1 _ _ tc ts Z q ce lsA F9 hk hl h1 h2 h3) k
/-- calls that don't throw -/
theorem Rn.callV {C : String} {T : u_T} {N ci idx a n : Nat} {fl : List (Option (Option Nat))} {As rest : List Value} {y : Ym} {Rr : Rs → Hi → Prop} (hd : decode Y.2.1 pc = .ok (.invokevirtual idx, 3)) (hM : zMv Y.1.cls idx C y n) (hG : Ga[a]? = some (.inl (ci, fl))) (hC : vwCl[ci]? = some (C, T, N))
    (hst : st = As.reverse ++ .ref a :: rest) (hn : As.length = n) (hr : (rest.map fun v => v.category).sum ≤ 8) (hct : Ct G Ga y d 0 (.ref a :: As) I Rr) (hx : ∀ (E : String) (J : Hi), ¬ Rr (.inr E) J)
    (k : ∀ (v : Option Value) (J : Hi), Rr (.inl v) J → Rn G Ga Y kx (d + 1) b pc' ls (v.toList ++ rest) J) (hp : pc + 3 = pc' := by rfl) : Rn G Ga Y kx (d + 1) b pc ls st I :=
  Rn.callVx (mc := 0) hd hM hG hC hst hn hr hct (fun E J h => absurd h (hx E J)) k hp
theorem Rn.callS {idx n : Nat} {As rest : List Value} {y : Ym} {Rr : Rs → Hi → Prop} (hd : decode Y.2.1 pc = .ok (.invokestatic idx, 3)) (hM : zMs Y.1.cls idx y n)
    (hst : st = As.reverse ++ rest) (hn : As.length = n) (hr : (rest.map fun v => v.category).sum ≤ 8) (hct : Ct G Ga y d 0 As I Rr) (hx : ∀ (E : String) (J : Hi), ¬ Rr (.inr E) J)
    (k : ∀ (v : Option Value) (J : Hi), Rr (.inl v) J → Rn G Ga Y kx (d + 1) b pc' ls (v.toList ++ rest) J) (hp : pc + 3 = pc' := by rfl) : Rn G Ga Y kx (d + 1) b pc ls st I :=
  Rn.callSx (mc := 0) hd hM hst hn hr hct (fun E J h => absurd h (hx E J)) k hp
/-- calls that may throw: it goes out of this method too -/
theorem zout {Q : Rs → Hi → Prop} {rest : List Value} {E : String} {J : Hi} (h : Q (.inr E) J) : ∀ (p : Program) (e : Env) (R : Room) (s : State) (m : MethodId) (args : Array Value) (below : List Frame) (meth : Method) (c : Code) (H : Heap) (locs : List Loc) (cells slots tc ts : Nat) (Z : State → Prop) (q : Addr) (ce : Cell) (lsA : Array Slot), zFr G Ga Y d b J p R s m args meth c H locs cells slots tc ts → kM G Ga Q s args below c tc ts Z → lv_has lsA Y.2.2.1 (zl (gad G) 0 ls) → H[q]? = some ce → ce.vm = .none → s.vm.findClass E = some ce.cls → vx_W p (gL G) e R s m args below meth c H locs cells slots Z (F0 m pc lsA (rest.map (zr (gad G)))) q := by
  intro p e R s m args below meth c H locs cells slots tc ts Z q ce lsA F hk hl h1 h2 h3
  obtain ⟨F1, ⟨hP, hD, hS⟩, F3, F4, F5, F6, F7, F8⟩ := F
  obtain ⟨ht, rfl⟩ := hk
  exact vx_out (fun x hx => (ht x hx).elim) F1.2.2.2.2.1 h1 h2 h3 (fun t h4 _ => ⟨⟨J, h, by rw [h4]; exact hP⟩, by rw [h4]; exact hS.1, by rw [h4]; exact hS.2.1⟩) hS.2.2 (by omega) (by omega)
theorem Rn.callVt {Q : Rs → Hi → Prop} {C : String} {T : u_T} {N ci idx a n mc : Nat} {fl : List (Option (Option Nat))} {As rest : List Value} {y : Ym} {Rr : Rs → Hi → Prop} (hd : decode Y.2.1 pc = .ok (.invokevirtual idx, 3)) (hM : zMv Y.1.cls idx C y n) (hG : Ga[a]? = some (.inl (ci, fl))) (hC : vwCl[ci]? = some (C, T, N))
    (hst : st = As.reverse ++ .ref a :: rest) (hn : As.length = n) (hr : (rest.map fun v => v.category).sum ≤ 8) (hct : Ct G Ga y d mc (.ref a :: As) I Rr) (hx : ∀ (E : String) (J : Hi), Rr (.inr E) J → Q (.inr E) J)
    (k : ∀ (v : Option Value) (J : Hi), Rr (.inl v) J → Rn G Ga Y (kM G Ga Q) (d + 1) b pc' ls (v.toList ++ rest) J) (hp : pc + 3 = pc' := by rfl) : Rn G Ga Y (kM G Ga Q) (d + 1) (b + mc) pc ls st I :=
  Rn.callVx hd hM hG hC hst hn hr hct (fun E J h => zout (hx E J h)) k hp
theorem Rn.callSt {Q : Rs → Hi → Prop} {idx n mc : Nat} {As rest : List Value} {y : Ym} {Rr : Rs → Hi → Prop} (hd : decode Y.2.1 pc = .ok (.invokestatic idx, 3)) (hM : zMs Y.1.cls idx y n)
    (hst : st = As.reverse ++ rest) (hn : As.length = n) (hr : (rest.map fun v => v.category).sum ≤ 8) (hct : Ct G Ga y d mc As I Rr) (hx : ∀ (E : String) (J : Hi), Rr (.inr E) J → Q (.inr E) J)
    (k : ∀ (v : Option Value) (J : Hi), Rr (.inl v) J → Rn G Ga Y (kM G Ga Q) (d + 1) b pc' ls (v.toList ++ rest) J) (hp : pc + 3 = pc' := by rfl) : Rn G Ga Y (kM G Ga Q) (d + 1) (b + mc) pc ls st I :=
  Rn.callSx hd hM hst hn hr hct (fun E J h => zout (hx E J h)) k hp

end RnRules
