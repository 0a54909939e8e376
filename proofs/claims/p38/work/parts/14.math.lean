def imin (x y : Int32) : Int32 := if y < x then y else x
def imax (x y : Int32) : Int32 := if x < y then y else x
def iabs (x : Int32) : Int32 := if 0 ≤ x then x else 0 - x
section RnMath
variable {G : Gx} {Ga : List Shp} {Y : Ym} {kx : Kx} {d b pc pc' idx : Nat} {ls : List (Option Value)} {st : List Value} {I : Hi}
theorem Rn.mmin {x y : Int32} (hd : decode Y.2.1 pc = .ok (.invokestatic idx, 3)) (hM : zMs Y.1.cls idx (Lib.Math.min.name, Lib.Math.min.code, 2, some .int) 2) (hr : (st.map fun v => v.category).sum ≤ 8) (k : Rn G Ga Y kx d b pc' ls (.int (imin x y) :: st) I) (hp : pc + 3 = pc' := by rfl) : Rn G Ga Y kx d b pc ls (.int y :: .int x :: st) I := by
  subst hp
  intro p e R s m args below meth c H locs cells slots tc ts Z F hk lsA hl
  have hts := F.1.2.2.2.2.2.2.1
  exact va_mmin F.1.1 F.1.2.1 (F.1.2.2.1.trans hl.1.symm) F.1.2.2.2.2.2.1 (hts _ hM.1.1) (hts _ hM.2) (hts _ hM.1.2.1) (hts _ hM.1.2.2.1) (by have := F.2.2.1; omega) (by rw [zsum]; have := F.2.2.2.1; omega) (by have := F.2.2.2.2.1; have := F.2.2.2.2.2.2.1; omega) (by have := F.2.2.2.2.2.1; have := F.2.2.2.2.2.2.2; omega) hd (k p e R s m args below meth c H locs cells slots tc ts Z F hk lsA hl)
theorem Rn.mmax {x y : Int32} (hd : decode Y.2.1 pc = .ok (.invokestatic idx, 3)) (hM : zMs Y.1.cls idx (Lib.Math.max.name, Lib.Math.max.code, 2, some .int) 2) (hr : (st.map fun v => v.category).sum ≤ 8) (k : Rn G Ga Y kx d b pc' ls (.int (imax x y) :: st) I) (hp : pc + 3 = pc' := by rfl) : Rn G Ga Y kx d b pc ls (.int y :: .int x :: st) I := by
  subst hp
  intro p e R s m args below meth c H locs cells slots tc ts Z F hk lsA hl
  have hts := F.1.2.2.2.2.2.2.1
  exact va_mmax F.1.1 F.1.2.1 (F.1.2.2.1.trans hl.1.symm) F.1.2.2.2.2.2.1 (hts _ hM.1.1) (hts _ hM.2) (hts _ hM.1.2.1) (hts _ hM.1.2.2.1) (by have := F.2.2.1; omega) (by rw [zsum]; have := F.2.2.2.1; omega) (by have := F.2.2.2.2.1; have := F.2.2.2.2.2.2.1; omega) (by have := F.2.2.2.2.2.1; have := F.2.2.2.2.2.2.2; omega) hd (k p e R s m args below meth c H locs cells slots tc ts Z F hk lsA hl)
theorem Rn.mabs {x : Int32} (hd : decode Y.2.1 pc = .ok (.invokestatic idx, 3)) (hM : zMs Y.1.cls idx (Lib.Math.abs.name, Lib.Math.abs.code, 1, some .int) 1) (hr : (st.map fun v => v.category).sum ≤ 8) (k : Rn G Ga Y kx d b pc' ls (.int (iabs x) :: st) I) (hp : pc + 3 = pc' := by rfl) : Rn G Ga Y kx d b pc ls (.int x :: st) I := by
  subst hp
  intro p e R s m args below meth c H locs cells slots tc ts Z F hk lsA hl
  have hts := F.1.2.2.2.2.2.2.1
  exact va_mabs F.1.1 F.1.2.1 (F.1.2.2.1.trans hl.1.symm) F.1.2.2.2.2.2.1 (hts _ hM.1.1) (hts _ hM.2) (hts _ hM.1.2.1) (hts _ hM.1.2.2.1) (by have := F.2.2.1; omega) (by rw [zsum]; have := F.2.2.2.1; omega) (by have := F.2.2.2.2.1; have := F.2.2.2.2.2.2.1; omega) (by have := F.2.2.2.2.2.1; have := F.2.2.2.2.2.2.2; omega) hd (k p e R s m args below meth c H locs cells slots tc ts Z F hk lsA hl)
end RnMath
