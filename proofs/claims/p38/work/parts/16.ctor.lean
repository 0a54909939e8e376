/-! constructors: their contracts, their ends, calls of them -/
def zQn (G : Gx) (Ga Gb : List Shp) (J : Hi) (sz : Nat) : Array Value → State → Outcome → State → Prop := fun _ st oc t =>
  (oc = .returned none ∧ ∃ ad : Nat → Nat, (∀ k, (k < Ga.length ∨ Gb.length ≤ k) → ad k = gad G k) ∧ (∀ k, Ga.length ≤ k → k < Gb.length → sz ≤ ad k) ∧ va_D (fun _ => True) (zws Gb ad (gA G) J) ∧ va_P (gD G) vwCl (zws Gb ad (gA G) J) t.heap) ∧ va_F (zA G Ga sz) st t
/-- a constructor's contract: the world Ga grows to Gb, the ints are J -/
def Cn (G : Gx) (Ga : List Shp) (y : Ym) (d b : Nat) (vs : List Value) (I : Hi) (Gb : List Shp) (J : Hi) : Prop :=
  ∀ sz : Nat, Met (gL G) y.1 (zwy y) (zrm d b) (zPc G Ga vs I sz) (zQn G Ga Gb J sz) b (6 * b) (zA G Ga sz)
def kE (G : Gx) (Ga Gb : List Shp) (J : Hi) : Kx := fun s args below _ tc ts Z => Z = MQ below (zQn G Ga Gb J s.heap.size) args s tc ts (zA G Ga s.heap.size)
theorem Cn.mk {G : Gx} {Ga Gb : List Shp} {y : Ym} {d b : Nat} {vs : List Value} {I J : Hi} (ls : List (Option Value)) (k : ∀ ad, Rn (gw G ad) Ga y (kZ (kE G Ga Gb J) G Ga.length ad Ga.length) d b 0 ls [] I) (hn9 : Ga.length ≤ 900) (hy : plainName y.1.cls = true := by decide +kernel) (hc : vs.all (fun v => v.category == 1) = true := by rfl) (hn : vs.length ≤ y.2.2.1 := by exact Nat.le_of_ble_eq_true rfl)
    (hl : ls = vs.map some ++ List.replicate (y.2.2.1 - vs.length) none := by rfl) : Cn G Ga y d b vs I Gb J := by
  intro sz
  have hc' : ∀ v ∈ vs, v.category = 1 := fun v hv => by simpa using List.all_eq_true.mp hc v hv
  refine Met.ofW (cc := y.2.1) (maxL := y.2.2.1) (ret := y.2.2.2) hy rfl ?_
  intro p e s m args below meth c s₁ B hml hv
  obtain ⟨rfl, rfl, hP, hD, hK⟩ := hv
  have hts := atoms_spec (ws := zwy y) B.pre
  have hown : s.vm.findClass y.1.cls = some m.cls := findClass_of_methodNamed B.named
  have hl9 := lv_entry (vs.map (zr (gad G))) (n := y.2.2.1) (by rw [lg_sl_len vs hc']; exact hn)
  rw [lg_entry_eq]
  have h9 := k (gad G) p e (zrm d b) s m _ below meth c s.heap [] 0 0 b (6 * b) _ ⟨⟨B.exec, B.bytes, hml, B.returns, B.notSynchronized, hown, fun w hw => hts w (List.mem_cons_of_mem _ hw), hK⟩, ⟨hP, hD, va_S.rf⟩, Nat.le_refl _, Nat.le_refl _, by omega, by omega, Nat.le_refl _, Nat.le_refl _, (name_of_methodNamed B.named B.method).1⟩ ⟨rfl, fun k _ => rfl, fun k h1 h2 => absurd h2 (by omega), Nat.le_refl _, hn9⟩ _ (by rw [hl, zl_args vs 0 _ hc']; exact hl9)
  exact h9
section Ctor
variable {G0 : Gx} {K : Kx} {n0 : Nat} {ad : Nat → Nat} {Ga : List Shp} {Y : Ym} {d b pc pc' : Nat} {ls : List (Option Value)} {st : List Value} {I : Hi}
theorem Rn.nret {Ga0 Gb : List Shp} {J : Hi} (hd : decode Y.2.1 pc = .ok (.return_, 1)) (hr : Y.2.2.2 = none) : Rn (gw G0 ad) Gb Y (kZ (kE G0 Ga0 Gb J) G0 Ga0.length ad Gb.length) d b pc ls [] J := by
  intro p e R s m args below meth c H locs cells slots tc ts Z F hk lsA hl
  obtain ⟨F1, ⟨hP, hD, hS⟩, F3, F4, F5, F6, F7, F8⟩ := F
  obtain ⟨rfl, g1, g2, g3, g4⟩ := hk
  refine W.widen (k := tc) (n := ts) (by omega) (by omega) ?_
  have hlocks : meth.locks = false := F1.2.2.2.2.1
  have hA : zA (gw G0 ad) Gb s.heap.size = zA G0 Ga0 s.heap.size := zA_eq g3 (fun k hk => g1 k (Or.inl hk)) g2
  rw [hA] at hS
  exact W.vret F1.1 F1.2.1 (F1.2.2.2.1.trans hr) (fun t h1 _ => ⟨⟨rfl, ad, g1, g2, ⟨hD.1, fun _ _ _ => trivial⟩, by rw [h1]; exact hP⟩, by rw [h1]; exact hS.1, by rw [h1]; exact hS.2.1⟩) hS.2.2 hd hlocks
theorem zafterN {Gb : List Shp} {J : Hi} {rest stA : List Value} {mc b2 : Nat} {p : Program} {e : Env} {R : Room} {s : State} {m : MethodId} {args : Array Value} {below : List Frame} {meth : Method} {c : Code} {H : Heap} {locs : List Loc} {cells slots tc ts : Nat} {Z : State → Prop} {lsA : Array Slot} {a9 : Array Value}
    (F : zFr (gw G0 ad) Ga Y d (b2 + mc) I p R s m args meth c H locs cells slots tc ts) (hk : kZ K G0 n0 ad Ga.length s args below c tc ts Z) (hl : lv_has lsA Y.2.2.1 (zl ad 0 ls))
    (hv : zlt Ga.length Gb.length ls rest = true) (hg : Ga.length ≤ Gb.length) (hg9 : Gb.length ≤ 900)
    (hr : va_Run p (gL G0) e R s m args below meth c H locs cells slots mc (6 * mc) (F0 m pc lsA stA) (rest.map (zr ad)) (zQn (gw G0 ad) Ga Gb J H.size a9) (zA (gw G0 ad) Ga H.size))
    (k : ∀ ad', Rn (gw G0 ad') Gb Y (kZ K G0 n0 ad' Gb.length) d b2 (pc + 3) ls rest J) : W p (gL G0) e R s m args below meth c H locs cells slots Z (F0 m pc lsA stA) := by
  obtain ⟨F1, ⟨hP, hD, hS⟩, F3, F4, F5, F6, F7, F8⟩ := F
  obtain ⟨hK, g1, g2, g3, g4⟩ := hk
  intro T hT X
  have hsz : s.heap.size ≤ H.size := hS.1
  obtain ⟨v, st₀, t, T', L, h0, X', hL, e1, e2, ⟨⟨hv0, ad', q1, q2, q3, q4⟩, hF⟩, go⟩ := hr T hT X
  cases hv0
  obtain ⟨k1, k2, k3⟩ := vx_keep h0 e1 hS (fun q _ h => zsub hsz q h) (fun q h => zsub hsz q h) hL hF
  have hA : zA (gw G0 ad') Gb s.heap.size = zA (gw G0 ad) Ga s.heap.size := zA_eq (G0 := gw G0 ad) hg (fun k hk => q1 k (Or.inl hk)) (fun k h1 h2 => Nat.le_trans hsz (q2 k h1 h2))
  have F9 : zFr (gw G0 ad') Gb Y d b2 J p R s m args meth c T'.heap (locs ++ L) (cells + mc) (slots + 6 * mc) tc ts := by
    refine ⟨⟨F1.1, F1.2.1, F1.2.2.1, F1.2.2.2.1, F1.2.2.2.2.1, F1.2.2.2.2.2.1, F1.2.2.2.2.2.2.1, ?_⟩, ⟨by rw [e1]; exact q4, ?_, ?_⟩, F3, F4, by omega, by omega, F7, F8⟩
    · rw [hA]; exact zK.grow (G := gw G0 ad) (fun k hk => q1 k (Or.inr (by omega))) F1.2.2.2.2.2.2.2
    · rw [hA]
      refine ⟨q3.1, fun k q hk => ?_⟩
      have hlt : k < Gb.length := by
        have := (List.getElem?_eq_some_iff.mp hk).1
        rwa [zws_len] at this
      have hz := zws_get (ad := ad') (dA := gA G0) (I := J) (List.getElem?_eq_getElem hlt)
      have hz2 : (zws Gb ad' (gA G0) J)[k]? = some q := hk
      rw [hz] at hz2
      cases hz2
      by_cases h1 : k < Ga.length
      · exact Or.inl ⟨k, h1, q1 k (Or.inl h1)⟩
      · exact Or.inr (Nat.le_trans hsz (q2 k (Nat.not_lt.mp h1) hlt))
    · rw [hA]; exact k3
  have hk9 : kZ K G0 n0 ad' Gb.length s args below c tc ts Z := by
    refine ⟨hK, fun k hk => ?_, fun k h1 h2 => ?_, by omega, hg9⟩
    · rw [q1 k (by omega)]; exact g1 k (by omega)
    · by_cases h3 : k < Ga.length
      · rw [q1 k (Or.inl h3)]; exact g2 k h1 h3
      · exact Nat.le_trans hsz (q2 k (Nat.not_lt.mp h3) h2)
  obtain ⟨t2, a1, b1⟩ := k ad' p e R s m args below meth c T'.heap (locs ++ L) (cells + mc) (slots + 6 * mc) tc ts Z F9 hk9 lsA (by show lv_has lsA Y.2.2.1 (zl ad' 0 ls); rw [zlt_ls (fun k hk => q1 k hk) 0 hv]; exact hl) T' rfl X'
  refine ⟨t2, go t2 ?_, b1⟩
  have h10 : rest.map (zr ad') = rest.map (zr ad) := zlt_st (fun k hk => q1 k hk) hv
  have a2 : Steps p.tables e below (T'.setTop (F0 m (pc + 3) lsA (rest.map (zr ad')))) t2 := a1
  rw [h10] at a2
  exact a2
/-- a constructor's call: its link, or a nest mate's -/
def zMi (own : String) (idx : Nat) (y : Ym) (n : Nat) : Prop := zMb own idx y n ∧ y.1.name = "<init>" ∧ Cond.instanceMethod y.1 ∈ WA
def zMn (own : String) (idx : Nat) (y : Ym) (n : Nat) : Prop := (∃ host, (own, idx, y.1, host) ∈ zNm) ∧ Cond.initialized y.1.cls ∈ WA ∧ Cond.code y.1 y.2.1 y.2.2.1 y.2.2.2 ∈ WA ∧ y.2.2.1 ≤ 21 ∧ (y.1.cls ≠ "java/lang/invoke/MethodHandle" ∧ y.1.cls ≠ "java/lang/invoke/VarHandle" ∧ (parseMethodDescriptor y.1.desc).map (fun q => q.parameters.length) = some n) ∧ y.1.name = "<init>" ∧ Cond.instanceMethod y.1 ∈ WA
theorem Rn.ctor {idx a n mc : Nat} {As rest : List Value} {y : Ym} {Gb : List Shp} {J : Hi} (hd : decode Y.2.1 pc = .ok (.invokespecial idx, 3)) (hM : zMi Y.1.cls idx y n ∨ zMn Y.1.cls idx y n) (hy0 : y.2.2.2 = none)
    (hst : st = As.reverse ++ .ref a :: rest) (hn : As.length = n) (hr : (rest.map fun v => v.category).sum ≤ 8) (hct : Cn (gw G0 ad) Ga y d mc (.ref a :: As) I Gb J) (hv : zlt Ga.length Gb.length ls rest = true) (hg : Ga.length ≤ Gb.length) (hg9 : Gb.length ≤ 900)
    (k : ∀ ad', Rn (gw G0 ad') Gb Y (kZ K G0 n0 ad' Gb.length) (d + 1) b pc' ls rest J) (hp : pc + 3 = pc' := by rfl) : Rn (gw G0 ad) Ga Y (kZ K G0 n0 ad Ga.length) (d + 1) (b + mc) pc ls st I := by
  subst hp
  subst hst
  obtain ⟨yn, yc, yl, yr⟩ := y
  obtain rfl : yr = none := hy0
  intro p e R s m args below meth c H locs cells slots tc ts Z F hk lsA hl
  have F0' := F
  obtain ⟨F1, ⟨hP, hD, hS⟩, F3, F4, F5, F6, F7, F8⟩ := F
  have hts := F1.2.2.2.2.2.2.1
  refine zafterN (G0 := G0) (K := K) (n0 := n0) (ad := ad) (stA := (As.reverse ++ Value.ref a :: rest).map (zr ad)) F0' hk hl hv hg hg9 (a9 := (Value.ref (ad a) :: As.map (zr ad)).toArray) ?_ k
  rcases hM with hM | hM
  · exact va_runI (As := As.map (zr ad)) (rest := rest.map (zr ad)) (b := ad a) ⟨F1.1, F1.2.1, F1.2.2.1, F1.2.2.2.2.2.1, hts⟩ (hct H.size) ⟨zcallB hts hM.1 F3 F4, hM.2.1, hts _ hM.2.2⟩ ⟨zPc_blind, fun U hU hW => zpre (vs := .ref a :: As) F0' U hU hW⟩ rfl (by rw [List.length_map]; exact hn) hl.1 (by simp [zr, List.map_reverse]) (lv_room (by rw [zsum]; exact hr)) hd ⟨by omega, by omega⟩
  · obtain ⟨⟨host, m1⟩, m2, m3, m4, m5, m6, m7⟩ := hM
    exact va_runIN (host := host) (As := As.map (zr ad)) (rest := rest.map (zr ad)) (b := ad a) ⟨F1.1, F1.2.1, F1.2.2.1, F1.2.2.2.2.2.1, hts⟩ (hct H.size) ⟨va_cnB n hts (zgood m3) rfl rfl rfl (F1.2.2.2.2.2.2.2.2.2.2.2.2.1.2.1 _ m1) (hts _ m2) m5 ⟨by show d + 8 + 1 ≤ _; omega, by show 8 + (yl + 11) + (40 * d + 200) ≤ _; have : yl ≤ 21 := m4; omega⟩, m6, hts _ m7⟩ ⟨zPc_blind, fun U hU hW => zpre (vs := .ref a :: As) F0' U hU hW⟩ rfl (by rw [List.length_map]; exact hn) hl.1 (by simp [zr, List.map_reverse]) (lv_room (by rw [zsum]; exact hr)) hd ⟨by omega, by omega⟩
end Ctor
section Misc
variable {G : Gx} {kx : Kx} {Ga : List Shp} {Y : Ym} {d b pc pc' : Nat} {ls : List (Option Value)} {st : List Value} {I : Hi}
def zOb (own : String) (idx : Nat) : Prop := Cond.methodLink own idx Lib.objectInit ∈ WA ∧ Cond.instanceMethod Lib.objectInit ∈ WA ∧ Cond.code Lib.objectInit ⟨#[0xb1]⟩ 1 none ∈ WA
theorem Rn.objI {idx a : Nat} (hd : decode Y.2.1 pc = .ok (.invokespecial idx, 3)) (hO : zOb Y.1.cls idx) (hr : (st.map fun v => v.category).sum ≤ 8) (k : Rn G Ga Y kx d b pc' ls st I) (hp : pc + 3 = pc' := by rfl) : Rn G Ga Y kx d b pc ls (.ref a :: st) I := by
  subst hp
  intro p e R s m args below meth c H locs cells slots tc ts Z F hk lsA hl
  have hts := F.1.2.2.2.2.2.2.1
  refine W.objInit F.1.1 F.1.2.1 F.1.2.2.2.2.2.1 (hts _ hO.1) (hts _ hO.2.1) (hts _ hO.2.2) rfl (hl.1.trans F.1.2.2.1.symm) rfl hd (by have := F.2.2.1; omega) (by have := F.2.2.2.1; have h9 : 2 * (F0 m pc lsA ((Value.ref a :: st).map (zr (gad G)))).monitorRoom + ((st.map (zr (gad G))).map fun v => v.category).sum ≤ 8 := lv_room (by rw [zsum]; exact hr); omega) ?_
  exact k p e R s m args below meth c H locs cells slots tc ts Z F hk lsA hl
theorem Rn.aast {a v n ci : Nat} {f : Nat → Option Nat} {fl : List (Option (Option Nat))} {i : Int32} {j : Nat} (hd : decode Y.2.1 pc = .ok (.aastore, 1)) (hG : Ga[a]? = some (.inr (.object "BorrowedLuck$Coast", n, f))) (hv : Ga[v]? = some (.inl (0, fl))) (hi : i = nI j) (hj : j < n) (hn : n < 100000)
    (k : Rn G (Ga.set a (.inr (.object "BorrowedLuck$Coast", n, va_up f j (some v)))) Y kx d b pc' ls st I) (hp : pc + 1 = pc' := by rfl) : Rn G Ga Y kx d b pc ls (.ref v :: .int i :: .ref a :: st) I := by
  subst hp
  subst hi
  intro p e R s m args below meth c H locs cells slots tc ts Z F hk lsA hl
  obtain ⟨F1, ⟨hP, hD, hS⟩, F3, F4, F5, F6, F7, F8, Fn⟩ := F
  have ha : a < Ga.length := (List.getElem?_eq_some_iff.mp hG).1
  refine va_astq (r := (RX0, TX0, 12)) F1.1 F1.2.1 F1.2.2.2.2.2.2.2.1 hP hD hS a 3 v 0 (zws_get hG) rfl (zws_get hv) rfl (vp_in_nI hj (show n < 2147483648 by omega)) hd (fun H1 locs1 hP1 hD1 hS1 => ?_)
  rw [nI_clamp (by omega)] at hP1 hD1
  have hc : (.inl (gA G (.object "BorrowedLuck$Coast"), n, .inr (.inr (.inr (.inr (va_up (fun j => (f j).map (gad G)) j (some (gad G v))))))) : va_E) = zcell (gad G) (gA G) (I a) (.inr (.object "BorrowedLuck$Coast", n, va_up f j (some v))) := by
    show _ = (.inl (gA G (.object "BorrowedLuck$Coast"), n, .inr (.inr (.inr (.inr (fun q => (va_up f j (some v) q).map (gad G)))))) : va_E)
    have h9 : va_up (fun j => (f j).map (gad G)) j (some (gad G v)) = fun q => (va_up f j (some v) q).map (gad G) := by
      funext q
      simp only [va_up]
      split <;> rfl
    rw [h9]
  have hP2 : va_P (gD G) vwCl ((zws Ga (gad G) (gA G) I).set a (gad G a, .inl (gA G (.object "BorrowedLuck$Coast"), n, .inr (.inr (.inr (.inr (va_up (fun j => (f j).map (gad G)) j (some (gad G v))))))))) H1 := hP1
  have hD2 : va_D (zA G Ga s.heap.size) ((zws Ga (gad G) (gA G) I).set a (gad G a, .inl (gA G (.object "BorrowedLuck$Coast"), n, .inr (.inr (.inr (.inr (va_up (fun j => (f j).map (gad G)) j (some (gad G v))))))))) := hD1
  rw [zws_sh ha _ hc] at hP2 hD2
  exact k p e R s m args below meth c H1 locs1 cells slots tc ts Z ⟨⟨F1.1, F1.2.1, F1.2.2.1, F1.2.2.2.1, F1.2.2.2.2.1, F1.2.2.2.2.2.1, F1.2.2.2.2.2.2.1, by rw [zA_set]; exact F1.2.2.2.2.2.2.2⟩, ⟨hP2, by rw [zA_set]; exact hD2, by rw [zA_set]; exact hS1⟩, F3, F4, F5, F6, F7, F8, Fn⟩ hk lsA hl
/-- System.arraycopy of the first n ints -/
def zAc (own : String) (idx : Nat) : Prop := Cond.methodLink own idx arraycopyName ∈ WA ∧ Cond.native arraycopyName ∈ WA ∧ Cond.static arraycopyName ∈ WA ∧ Cond.initialized "java/lang/System" ∈ WA
theorem Rn.acopy {idx a a0 n n0 n1 : Nat} {f g : Nat → Option Nat} (hd : decode Y.2.1 pc = .ok (.invokestatic idx, 3)) (hA : zAc Y.1.cls idx) (hG0 : Ga[a0]? = some (.inr (.int, n0, f))) (hG : Ga[a]? = some (.inr (.int, n1, g))) (h0 : n ≤ n0) (h1 : n ≤ n1) (hn : n < 100000) (hr : (st.map fun v => v.category).sum ≤ 8)
    (k : Rn G Ga Y kx d b pc' ls st (zset I a (va_cpy (I a0) (I a) 0 0 n))) (hp : pc + 3 = pc' := by rfl) : Rn G Ga Y kx d b pc ls (.int (nI n) :: .int (nI 0) :: .ref a :: .int (nI 0) :: .ref a0 :: st) I := by
  subst hp
  intro p e R s m args below meth c H locs cells slots tc ts Z F hk lsA hl
  obtain ⟨F1, ⟨hP, hD, hS⟩, F3, F4, F5, F6, F7, F8, Fn⟩ := F
  have hts := F1.2.2.2.2.2.2.1
  have hc0 : (nI 0).toNatClampNeg = 0 := nI_clamp (by omega)
  have hcn : (nI n).toNatClampNeg = n := nI_clamp (by omega)
  have hnf : nativeFrameWords "java/lang/System" "arraycopy" 5 ≤ 100 := by decide +kernel
  refine va_copyi (ty := .int) F1.1 F1.2.1 (F1.2.2.1.trans hl.1.symm) F1.2.2.2.2.2.1 (hts _ hA.1) (hts _ hA.2.1) (hts _ hA.2.2.1) (hts _ hA.2.2.2) F1.2.2.2.2.2.2.2.1 hP hD hS a0 a 0 0 (zws_get hG0) (zws_get hG) rfl rfl rfl (nI_pos (show 0 < 2147483648 by omega)) (nI_pos (show 0 < 2147483648 by omega)) (nI_pos (show n < 2147483648 by omega)) (by rw [hc0, hcn, Nat.zero_add]; exact h0) (by rw [hc0, hcn, Nat.zero_add]; exact h1) (fun i _ => rfl) (by omega) (by rw [zsum]; omega) hd (fun H1 locs1 hP1 hD1 hS1 => ?_)
  rw [hc0, hcn] at hP1 hD1
  have hP2 : va_P (gD G) vwCl ((zws Ga (gad G) (gA G) I).set a (gad G a, .inl (gA G .int, n1, .inl (va_cpy (I a0) (I a) 0 0 n)))) H1 := hP1
  have hD2 : va_D (zA G Ga s.heap.size) ((zws Ga (gad G) (gA G) I).set a (gad G a, .inl (gA G .int, n1, .inl (va_cpy (I a0) (I a) 0 0 n)))) := hD1
  rw [zws_set hG (va_cpy (I a0) (I a) 0 0 n) (show (.inl (gA G .int, n1, .inl (va_cpy (I a0) (I a) 0 0 n)) : va_E) = zcell (gad G) (gA G) (va_cpy (I a0) (I a) 0 0 n) (.inr (.int, n1, g)) from rfl)] at hP2 hD2
  exact k p e R s m args below meth c H1 locs1 cells slots tc ts Z ⟨F1, ⟨hP2, hD2, hS1⟩, F3, F4, F5, F6, F7, F8, Fn⟩ hk lsA hl
end Misc
