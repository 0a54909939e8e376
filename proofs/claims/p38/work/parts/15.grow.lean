/-! worlds that grow: what constructors make -/
theorem zin {w : Cond} (i : Nat) (h : lw_tbl[i]? = some w) (g : goodWord w = true) : w ∈ WA := List.mem_filter.mpr ⟨List.mem_of_getElem? h, g⟩
abbrev gw (G : Gx) (ad : Nat → Nat) : Gx := (G.1, G.2.1, G.2.2.1, ad, G.2.2.2.2.1, G.2.2.2.2.2)
def adx (ad : Nat → Nat) (n a : Nat) : Nat → Nat := fun k => if k = n then a else ad k
/-- all that a shape refers to is below n -/
def zok (n : Nat) : Shp → Prop
  | .inl q => ∀ x ∈ q.2, ∀ r, x = some (some r) → r < n
  | .inr q => (∃ C, q.1 = .object C) → ∀ j r, q.2.2 j = some r → r < n
def zOK (Ga : List Shp) (n : Nat) : Prop := ∀ sh ∈ Ga, zok n sh
theorem zok.up {n m : Nat} {sh : Shp} (h : zok n sh) (hm : n ≤ m) : zok m sh := by
  cases sh with
  | inl q => exact fun x hx r hr => Nat.lt_of_lt_of_le (h x hx r hr) hm
  | inr q => exact fun hC j r hr => Nat.lt_of_lt_of_le (h hC j r hr) hm
theorem zOK.up {n m : Nat} {Ga : List Shp} (h : zOK Ga n) (hm : n ≤ m) : zOK Ga m := fun sh hs => (h sh hs).up hm
theorem zOK.app {n : Nat} {Ga Gb : List Shp} (h : zOK Ga n) (h2 : zOK Gb n) : zOK (Ga ++ Gb) n := fun sh hs => (List.mem_append.mp hs).elim (h sh) (h2 sh)
theorem zOK.set {n a : Nat} {Ga : List Shp} {sh : Shp} (h : zOK Ga n) (h2 : zok n sh) : zOK (Ga.set a sh) n := fun x hx => (List.mem_or_eq_of_mem_set hx).elim (h x) (fun e => by rw [e]; exact h2)
theorem zcell_ad {ad ad' : Nat → Nat} {n : Nat} (he : ∀ k, k < n → ad' k = ad k) {dA : FieldType → ClassId} {g : Nat → Int32} {sh : Shp} (h : zok n sh) : zcell ad' dA g sh = zcell ad dA g sh := by
  cases sh with
  | inl q =>
    show (Sum.inr (q.1, _) : va_E) = Sum.inr (q.1, _)
    congr 2
    apply List.ext_getElem?
    intro i
    simp only [List.getElem?_mapIdx]
    cases hx : q.2[i]? with
    | none => rfl
    | some x =>
      have hm := List.mem_of_getElem? hx
      simp only [Option.map_some]
      cases x with
      | none => rfl
      | some r =>
        cases r with
        | none => rfl
        | some r => simp only [zfv, Option.map_some, va_rf]; rw [he r (h _ hm r rfl)]
  | inr q =>
    obtain ⟨ty, len, f⟩ := q
    cases ty with
    | object C =>
      show (Sum.inl (dA (.object C), len, Sum.inr (Sum.inr (Sum.inr (Sum.inr (fun j => (f j).map ad'))))) : va_E) = Sum.inl (dA (.object C), len, Sum.inr (Sum.inr (Sum.inr (Sum.inr (fun j => (f j).map ad)))))
      have : (fun j => (f j).map ad') = (fun j => (f j).map ad) := by
        funext j
        cases hj : f j with
        | none => rfl
        | some r => simp only [Option.map_some]; rw [he r (h ⟨C, rfl⟩ j r hj)]
      rw [this]
    | _ => rfl
theorem zws_ad {Ga : List Shp} {ad ad' : Nat → Nat} {dA : FieldType → ClassId} {I : Hi} {n : Nat} (hn : Ga.length ≤ n) (he : ∀ k, k < n → ad' k = ad k) (hok : zOK Ga n) : zws Ga ad' dA I = zws Ga ad dA I := by
  apply List.ext_getElem?
  intro i
  simp only [zws, List.getElem?_mapIdx]
  cases hx : Ga[i]? with
  | none => rfl
  | some sh =>
    have hi : i < Ga.length := (List.getElem?_eq_some_iff.mp hx).1
    simp only [Option.map_some]
    rw [zcell_ad he (hok sh (List.mem_of_getElem? hx)), he i (Nat.lt_of_lt_of_le hi hn)]
theorem zws_app {Ga : List Shp} {ad : Nat → Nat} {dA : FieldType → ClassId} {I : Hi} {sh : Shp} {n : Nat} (hn : Ga.length = n) : zws (Ga ++ [sh]) ad dA I = zws Ga ad dA I ++ [(ad n, zcell ad dA (I n) sh)] := by
  subst hn
  simp [zws, List.mapIdx_append]
theorem zA_eq {G0 : Gx} {ad : Nat → Nat} {Ga0 Ga : List Shp} {sz : Nat} (hn : Ga0.length ≤ Ga.length) (h1 : ∀ k, k < Ga0.length → ad k = gad G0 k) (h2 : ∀ k, Ga0.length ≤ k → k < Ga.length → sz ≤ ad k) : zA (gw G0 ad) Ga sz = zA G0 Ga0 sz := by
  funext q
  apply propext
  constructor
  · rintro (⟨k, hk, rfl⟩ | h)
    · by_cases hk0 : k < Ga0.length
      · exact Or.inl ⟨k, hk0, h1 k hk0⟩
      · exact Or.inr (h2 k (Nat.not_lt.mp hk0) hk)
    · exact Or.inr h
  · rintro (⟨k, hk, rfl⟩ | h)
    · exact Or.inl ⟨k, Nat.lt_of_lt_of_le hk hn, (h1 k hk).symm⟩
    · exact Or.inr h
/-- an id that growth from n up to m leaves as it was -/
def vlt (n m : Nat) : Value → Bool
  | .ref r => Nat.blt r n || Nat.ble m r
  | _ => true
theorem vlt_zr {n m : Nat} {ad ad' : Nat → Nat} (he : ∀ k, (k < n ∨ m ≤ k) → ad' k = ad k) {v : Value} (h : vlt n m v = true) : zr ad' v = zr ad v := by
  cases v with
  | ref r =>
    simp only [vlt, Bool.or_eq_true, Nat.blt_eq, Nat.ble_eq] at h
    show Value.ref _ = Value.ref _
    rw [he r h]
  | _ => rfl
def zlt (n m : Nat) (ls : List (Option Value)) (st : List Value) : Bool := ls.all (fun o => match o with | some v => vlt n m v | none => true) && st.all (vlt n m)
theorem zlt_st {n m : Nat} {ad ad' : Nat → Nat} {ls : List (Option Value)} {st : List Value} (he : ∀ k, (k < n ∨ m ≤ k) → ad' k = ad k) (h : zlt n m ls st = true) : st.map (zr ad') = st.map (zr ad) := by
  simp only [zlt, Bool.and_eq_true, List.all_eq_true] at h
  exact List.map_congr_left (fun v hv => vlt_zr he (h.2 v hv))
theorem zlt_ls {n m : Nat} {ad ad' : Nat → Nat} (he : ∀ k, (k < n ∨ m ≤ k) → ad' k = ad k) : ∀ {ls : List (Option Value)} {st : List Value} (i : Nat), zlt n m ls st = true → zl ad' i ls = zl ad i ls := by
  intro ls
  induction ls with
  | nil => intro st i h; rfl
  | cons o r ih =>
    intro st i h
    have h2 : zlt n m r st = true := by
      simp only [zlt, List.all_cons, Bool.and_eq_true] at h ⊢
      exact ⟨h.1.2, h.2⟩
    cases o with
    | none => exact ih (i + 1) h2
    | some v =>
      have hv : vlt n m v = true := by
        simp only [zlt, List.all_cons, Bool.and_eq_true] at h
        exact h.1.1
      simp only [zl, ih (i + 1) h2, vlt_zr he hv]
theorem zK.grow {G : Gx} {ad : Nat → Nat} {A : Nat → Prop} {U : State} {H : Heap} (he : ∀ k, 1000 ≤ k → ad k = gad G k) (h : zK G A U H) : zK (gw G ad) A U H := by
  obtain ⟨h1, h2, h3, h4, h5, ⟨h6, h7, h9, h10, h11⟩, h8⟩ := h
  refine ⟨h1, h2, fun r hr => ?_, h4, h5, ⟨h6, h7, h9, h10, h11.1, ?_, h11.2.2.1, ?_⟩, h8⟩
  rotate_left
  · have e1 : (fun i => gad (gw G ad) (1000 + i)) = (fun i => gad G (1000 + i)) := funext (fun i => he _ (by omega))
    have e2 : (fun i => gad (gw G ad) (1100 + i)) = (fun i => gad G (1100 + i)) := funext (fun i => he _ (by omega))
    rw [e1, e2]
    exact h11.2.1
  · have e3 : gad (gw G ad) 1999 = gad G 1999 := he _ (by omega)
    rw [e3]
    exact h11.2.2.2
  have h5 := h3 r hr
  have h6 : 1000 ≤ r.2.2.2 := by
    have : ∀ r ∈ zSR, 1000 ≤ r.2.2.2 := by decide +kernel
    exact this r hr
  show vk_R r.1 r.2.1 r.2.2.1 (ad r.2.2.2) U
  rw [he _ h6]
  exact h5
/-- a frame's end under growth: K, and what has grown since (G0, n0) -/
def kZ (K : Kx) (G0 : Gx) (n0 : Nat) (ad : Nat → Nat) (n : Nat) : Kx := fun s args below c tc ts Z => K s args below c tc ts Z ∧ (∀ k, (k < n0 ∨ n ≤ k) → ad k = gad G0 k) ∧ (∀ k, n0 ≤ k → k < n → s.heap.size ≤ ad k) ∧ n0 ≤ n ∧ n ≤ 900
theorem Rn.kmono {G : Gx} {Ga : List Shp} {Y : Ym} {kx kx' : Kx} {d b pc : Nat} {ls : List (Option Value)} {st : List Value} {I : Hi} (h : ∀ s args below c tc ts Z, kx s args below c tc ts Z → kx' s args below c tc ts Z) (k : Rn G Ga Y kx' d b pc ls st I) : Rn G Ga Y kx d b pc ls st I := fun p e R s m args below meth c H locs cells slots tc ts Z F hk lsA hl => k p e R s m args below meth c H locs cells slots tc ts Z F (h _ _ _ _ _ _ _ hk) lsA hl
section Grow
variable {G0 : Gx} {K : Kx} {n0 : Nat} {ad : Nat → Nat} {Ga : List Shp} {Y : Ym} {d b pc pc' : Nat} {ls : List (Option Value)} {st : List Value} {I : Hi}
/-- behind a growth by one cell -/
theorem zgrow1 {sh : Shp} {p : Program} {e : Env} {R : Room} {s : State} {m : MethodId} {args : Array Value} {below : List Frame} {meth : Method} {c : Code} {H H1 : Heap} {locs : List Loc} {cells slots tc ts N q b2 pc2 : Nat} {Z : State → Prop} {lsA : Array Slot}
    (F : zFr (gw G0 ad) Ga Y d b2 I p R s m args meth c H locs cells slots tc ts) (hk : kZ K G0 n0 ad Ga.length s args below c tc ts Z) (hl : lv_has lsA Y.2.2.1 (zl ad 0 ls)) (hok : zOK Ga Ga.length) (hsh : zok Ga.length sh) (hv : zlt Ga.length (Ga.length + 1) ls st = true) (hn : Ga.length < 900)
    (hP : va_P (gD G0) vwCl (zws Ga ad (gA G0) I ++ [(q, zcell ad (gA G0) (I Ga.length) sh)]) H1) (hD : va_D (zA (gw G0 ad) Ga s.heap.size) (zws Ga ad (gA G0) I ++ [(q, zcell ad (gA G0) (I Ga.length) sh)])) (hS : va_S (zA (gw G0 ad) Ga s.heap.size) s.heap H1 locs)
    (hb : 1 + b ≤ b2) (hb6 : N + 6 * b ≤ 6 * b2)
    (kk : ∀ ad', Rn (gw G0 ad') (Ga ++ [sh]) Y (kZ K G0 n0 ad' (Ga.length + 1)) d b pc2 ls (.ref Ga.length :: st) I) : W p (gL G0) e R s m args below meth c H1 locs (cells + 1) (slots + N) Z (F0 m pc2 lsA (.ref q :: st.map (zr ad))) := by
  obtain ⟨F1, -, F3, F4, F5, F6, F7, F8⟩ := F
  obtain ⟨hK, g1, g2, g3, g4⟩ := hk
  have he : ∀ k, (k < Ga.length ∨ Ga.length + 1 ≤ k) → adx ad Ga.length q k = ad k := fun k hk => if_neg (by omega)
  have hq : s.heap.size ≤ q := by
    have h1 := hD.2 Ga.length (q, zcell ad (gA G0) (I Ga.length) sh) (by rw [List.getElem?_append_right (by rw [zws_len]; exact Nat.le_refl _), zws_len]; simp)
    rcases h1 with ⟨k, hk, h2⟩ | h1
    · exfalso
      have h3 := hD.1 k Ga.length (ad k, zcell ad (gA G0) (I k) Ga[k]) (q, zcell ad (gA G0) (I Ga.length) sh) (by rw [List.getElem?_append_left (by rw [zws_len]; exact hk)]; exact zws_get (List.getElem?_eq_getElem hk)) (by rw [List.getElem?_append_right (by rw [zws_len]; exact Nat.le_refl _), zws_len]; simp) h2.symm
      omega
    · exact h1
  have hw : zws (Ga ++ [sh]) (adx ad Ga.length q) (gA G0) I = zws Ga ad (gA G0) I ++ [(q, zcell ad (gA G0) (I Ga.length) sh)] := by
    rw [zws_app rfl, zws_ad (Nat.le_refl _) (fun k hk => he k (Or.inl hk)) hok, zcell_ad (fun k hk => he k (Or.inl hk)) hsh]
    rw [show adx ad Ga.length q Ga.length = q from if_pos rfl]
  have hA : zA (gw G0 (adx ad Ga.length q)) (Ga ++ [sh]) s.heap.size = zA (gw G0 ad) Ga s.heap.size :=
    zA_eq (G0 := gw G0 ad) (Ga0 := Ga) (by simp) (fun k hk => he k (Or.inl hk)) (fun k h1 h2 => by
      rw [List.length_append] at h2
      obtain rfl : k = Ga.length := by simp at h2; omega
      rw [show adx ad Ga.length q Ga.length = q from if_pos rfl]; exact hq)
  have F9 : zFr (gw G0 (adx ad Ga.length q)) (Ga ++ [sh]) Y d b I p R s m args meth c H1 locs (cells + 1) (slots + N) tc ts := by
    refine ⟨⟨F1.1, F1.2.1, F1.2.2.1, F1.2.2.2.1, F1.2.2.2.2.1, F1.2.2.2.2.2.1, F1.2.2.2.2.2.2.1, ?_⟩, ⟨?_, ?_, ?_⟩, F3, F4, by omega, by omega, F7, F8⟩
    · rw [hA]; exact zK.grow (G := gw G0 ad) (fun k hk => he k (Or.inr (by omega))) F1.2.2.2.2.2.2.2
    · show va_P (gD G0) vwCl (zws (Ga ++ [sh]) (adx ad Ga.length q) (gA G0) I) H1
      rw [hw]; exact hP
    · rw [hA]
      show va_D _ (zws (Ga ++ [sh]) (adx ad Ga.length q) (gA G0) I)
      rw [hw]; exact hD
    · rw [hA]; exact hS
  have hk9 : kZ K G0 n0 (adx ad Ga.length q) (Ga.length + 1) s args below c tc ts Z := by
    refine ⟨hK, fun k hk => ?_, fun k h1 h2 => ?_, by omega, by omega⟩
    · rw [he k (by omega)]; exact g1 k (by omega)
    · by_cases h3 : k = Ga.length
      · rw [h3, show adx ad Ga.length q Ga.length = q from if_pos rfl]; exact hq
      · rw [he k (by omega)]; exact g2 k h1 (by omega)
  have h9 := kk (adx ad Ga.length q) p e R s m args below meth c H1 locs (cells + 1) (slots + N) tc ts Z F9 hk9 lsA (by show lv_has lsA Y.2.2.1 (zl (adx ad Ga.length q) 0 ls); rw [zlt_ls he 0 hv]; exact hl)
  have h10 : (Value.ref Ga.length :: st).map (zr (adx ad Ga.length q)) = .ref q :: st.map (zr ad) := by
    rw [List.map_cons, zlt_st he hv]
    show Value.ref (adx ad Ga.length q Ga.length) :: _ = _
    rw [show adx ad Ga.length q Ga.length = q from if_pos rfl]
  exact W.eq (by show F0 m pc2 lsA _ = F0 m pc2 lsA _; rw [← h10]) h9
/-- a class that may be made: its number, its fields as they are made -/
def zNw (own : String) (idx ci N : Nat) (fl : List (Option (Option Nat))) : Prop := ∃ (C : String) (T : u_T) (ty : Nat → FieldType), vwCl[ci]? = some (C, T, N) ∧ (∀ w ∈ u_ws C T N, w ∈ WA) ∧ (∀ k, k < N → parseFieldDescriptor (T k).2.2.1 = some (ty k)) ∧ Cond.classLink own idx C ∈ WA ∧ Cond.instantiable C N ∈ WA ∧ Cond.initialized C ∈ WA ∧ fl.length = N ∧
  (List.range N).all (fun j => match fl[j]? with | some none => decide (defaultValue (ty j) = .int 0) | some (some none) => decide (defaultValue (ty j) = .null) | _ => false) = true
theorem Rn.newZ {idx ci N k : Nat} {fl : List (Option (Option Nat))} (hd : decode Y.2.1 pc = .ok (.new idx, 3)) (hN : zNw Y.1.cls idx ci N fl) (hok : zOK Ga Ga.length) (hz : I Ga.length = fun _ => 0) (hv : zlt Ga.length (Ga.length + 1) ls st = true) (hn : Ga.length < 900) (hk1 : 1 ≤ k) (hk6 : N ≤ 6 * k)
    (kk : ∀ ad', Rn (gw G0 ad') (Ga ++ [.inl (ci, fl)]) Y (kZ K G0 n0 ad' (Ga.length + 1)) d b pc' ls (.ref Ga.length :: st) I) (hp : pc + 3 = pc' := by rfl) : Rn (gw G0 ad) Ga Y (kZ K G0 n0 ad Ga.length) d (b + k) pc ls st I := by
  subst hp
  obtain ⟨C, T, ty, h1, h2, h3, h4, h5, h6, h7, h8⟩ := hN
  intro p e R s m args below meth c H locs cells slots tc ts Z F hk lsA hl
  have F0' := F
  obtain ⟨F1, ⟨hP, hD, hS⟩, F3, F4, F5, F6, F7, F8⟩ := F
  have hts := F1.2.2.2.2.2.2.1
  have hfl : ∀ j, j < N → (fl[j]? = some none ∧ defaultValue (ty j) = .int 0) ∨ (fl[j]? = some (some none) ∧ defaultValue (ty j) = .null) := by
    intro j hj
    have := List.all_eq_true.mp h8 j (List.mem_range.mpr hj)
    split at this
    · rename_i e; exact Or.inl ⟨e, by simpa using this⟩
    · rename_i e; exact Or.inr ⟨e, by simpa using this⟩
    · cases this
  have hsh : zok Ga.length (.inl (ci, fl)) := by
    intro x hx r hr
    obtain ⟨j, hj, rfl⟩ := List.getElem_of_mem hx
    have hj9 : j < fl.length := hj
    rcases hfl j (by omega) with ⟨e1, -⟩ | ⟨e1, -⟩
    · rw [List.getElem?_eq_getElem hj, hr] at e1; cases e1
    · rw [List.getElem?_eq_getElem hj, hr] at e1; cases e1
  refine va_new (ci := ci) (C := C) (T := T) (N := N) F1.1 F1.2.1 hts h2 ty h3 F1.2.2.2.2.2.1 (hts _ h4) (hts _ h5) (hts _ h6) F1.2.2.2.2.2.2.2.1 hP hD hS (fun q h => Or.inr h) h1 (fs := fl.mapIdx (fun j x => zfv ad (I Ga.length j) x)) (fun j hj => ?_) (by omega) (by omega) hd (fun q H1 hP1 hD1 hS1 => ?_)
  · have : ((fl.mapIdx (fun j x => zfv ad (I Ga.length j) x)) : List Value)[j]? = some (defaultValue (ty j)) := by
      rw [List.getElem?_mapIdx]
      rcases hfl j hj with ⟨e1, e2⟩ | ⟨e1, e2⟩
      · rw [e1, e2, hz]; rfl
      · rw [e1, e2]; rfl
    unfold vp_V
    rw [List.getD_eq_getElem?_getD, this]; rfl
  · exact zgrow1 (G0 := G0) (K := K) (n0 := n0) (ad := ad) (b := b) (sh := .inl (ci, fl)) F0' hk hl hok hsh hv hn hP1 hD1 hS1 (by omega) (by omega) kk
theorem Rn.newaZ {n k : Nat} {at_ : ArrayType} {ty : FieldType} {x : Int32} (hd : decode Y.2.1 pc = .ok (.newarray at_, 2)) (hty : newarray.typeOf at_ = ty) (ht3 : ty = .int ∨ ty = .byte ∨ ty = .long) (hw : Cond.arrayClass ty ∈ WA) (hx : x = nI n) (hn9 : n < 100000) (hok : zOK Ga Ga.length) (hz : I Ga.length = fun _ => 0) (hv : zlt Ga.length (Ga.length + 1) ls st = true) (hn : Ga.length < 900) (hk1 : 1 ≤ k) (hk6 : n ≤ 6 * k)
    (kk : ∀ ad', Rn (gw G0 ad') (Ga ++ [.inr (ty, n, fun _ => none)]) Y (kZ K G0 n0 ad' (Ga.length + 1)) d b pc' ls (.ref Ga.length :: st) I) (hp : pc + 2 = pc' := by rfl) : Rn (gw G0 ad) Ga Y (kZ K G0 n0 ad Ga.length) d (b + k) pc ls (.int x :: st) I := by
  subst hp
  subst hx
  intro p e R s m args below meth c H locs cells slots tc ts Z F hk lsA hl
  have F0' := F
  obtain ⟨F1, ⟨hP, hD, hS⟩, F3, F4, F5, F6, F7, F8⟩ := F
  have hts := F1.2.2.2.2.2.2.1
  have hK1 := F1.2.2.2.2.2.2.2.1
  have hsh : zok Ga.length (.inr (ty, n, fun _ => none)) := fun _ j r hr => nomatch hr
  have hza : ∀ cA : ClassId, vp_cell cA (n, zarr ad (I Ga.length) (fun _ => none) ty) = arrV cA n (fun _ => defaultValue ty) := by
    intro cA
    rcases ht3 with rfl | rfl | rfl <;> (rw [hz]; rfl)
  have hk4 : ∃ i : Nat, (ztys (gA G0))[i]? = some (gA G0 ty, ty) := by
    rcases ht3 with rfl | rfl | rfl
    · exact ⟨0, rfl⟩
    · exact ⟨1, rfl⟩
    · exact ⟨2, rfl⟩
  obtain ⟨i4, hi4⟩ := hk4
  refine va_newa (ty := ty) (N' := n) (a0 := (n, zarr ad (I Ga.length) (fun _ => none) ty)) F1.1 F1.2.1 (by rw [hty]; exact hts _ hw) hty hK1 hP hD hS (fun q h => Or.inr h) hza (nI_pos (by omega)) (nI_clamp (by omega)) (by rcases ht3 with rfl | rfl | rfl <;> (simp only [componentBytes]; omega)) (by omega) (by omega) hd (fun q cA H1 hK9 hP1 hD1 hS1 => ?_)
  have e1 := (hK1.2 i4 _ hi4).2
  have e2 := (hK9.2 4 (cA, ty) rfl).2
  have hcA : cA = gA G0 ty := by
    rcases ht3 with rfl | rfl | rfl <;> exact Option.some.inj (e2.symm.trans e1)
  subst hcA
  exact zgrow1 (G0 := G0) (K := K) (n0 := n0) (ad := ad) (b := b) (sh := .inr (ty, n, fun _ => none)) F0' hk hl hok hsh hv hn hP1 hD1 hS1 (by omega) (by omega) kk
theorem Rn.newqZ {n k idx : Nat} {x : Int32} (hd : decode Y.2.1 pc = .ok (.anewarray idx, 3)) (hw : Cond.classLink Y.1.cls idx "BorrowedLuck$Coast" ∈ WA) (hx : x = nI n) (hn9 : n < 100000) (hok : zOK Ga Ga.length) (hv : zlt Ga.length (Ga.length + 1) ls st = true) (hn : Ga.length < 900) (hk1 : 1 ≤ k) (hk6 : n ≤ 6 * k)
    (kk : ∀ ad', Rn (gw G0 ad') (Ga ++ [.inr (.object "BorrowedLuck$Coast", n, fun _ => none)]) Y (kZ K G0 n0 ad' (Ga.length + 1)) d b pc' ls (.ref Ga.length :: st) I) (hp : pc + 3 = pc' := by rfl) : Rn (gw G0 ad) Ga Y (kZ K G0 n0 ad Ga.length) d (b + k) pc ls (.int x :: st) I := by
  subst hp
  subst hx
  intro p e R s m args below meth c H locs cells slots tc ts Z F hk lsA hl
  have F0' := F
  obtain ⟨F1, ⟨hP, hD, hS⟩, F3, F4, F5, F6, F7, F8⟩ := F
  have hts := F1.2.2.2.2.2.2.1
  have hK1 := F1.2.2.2.2.2.2.2.1
  have hsh : zok Ga.length (.inr (.object "BorrowedLuck$Coast", n, fun _ => none)) := fun _ j r hr => nomatch hr
  refine va_newq (C := "BorrowedLuck$Coast") (N' := n) F1.1 F1.2.1 F1.2.2.2.2.2.1 (hts _ hw) F1.2.2.2.2.2.2.2.2.2.2.2.2.1.2.2.2.1 hK1 hP hD hS (fun q h => Or.inr h) (nI_pos (by omega)) (nI_clamp (by omega)) (by omega) (by omega) (by omega) hd (fun q cA H1 hK9 hP1 hD1 hS1 => ?_)
  have e1 := (hK1.2 3 _ rfl).2
  have e2 := (hK9.2 4 (cA, .object "BorrowedLuck$Coast") rfl).2
  have hcA : cA = gA G0 (.object "BorrowedLuck$Coast") := by
    obtain ⟨_, _, _, _, _, e1⟩ := e1
    obtain ⟨_, _, _, _, _, e2⟩ := e2
    exact Option.some.inj (e2.symm.trans e1)
  subst hcA
  exact zgrow1 (G0 := G0) (K := K) (n0 := n0) (ad := ad) (b := b) (sh := .inr (.object "BorrowedLuck$Coast", n, fun _ => none)) F0' hk hl hok hsh hv hn hP1 hD1 hS1 (by omega) (by omega) kk
end Grow
section GrowPut
variable {G : Gx} {kx : Kx} {Ga : List Shp} {Y : Ym} {d b pc pc' : Nat} {ls : List (Option Value)} {st : List Value} {I : Hi}
/-- a final field of own's pool entry idx, written in a constructor -/
def zFf (own : String) (idx ci k : Nat) (ty : FieldType) : Prop := ∃ (C : String) (T : u_T) (N : Nat) (ref : String) (ty0 : Nat → FieldType), vwCl[ci]? = some (C, T, N) ∧ k < N ∧ (∀ w ∈ u_ws C T N, w ∈ WA) ∧ (ref = (T k).1 ∨ Cond.sameField ref (T k).1 (T k).2.1 (T k).2.2.1 ∈ WA) ∧
  (Cond.fieldLink own idx ref (T k).2.1 (T k).2.2.1 ∈ WA ∨ ∃ host, (own, idx, ref, (T k).2.1, (T k).2.2.1, host) ∈ zNl) ∧ (∀ k, k < N → parseFieldDescriptor (T k).2.2.1 = some (ty0 k)) ∧ (∀ a, a < N → ∀ b, b < N → a ≠ b → (T a).2.1 ≠ (T b).2.1) ∧ (T k).2.2.2 = true ∧ (T k).1 = own ∧ parseFieldDescriptor (T k).2.2.1 = some ty
theorem zws_sh {Ga : List Shp} {ad : Nat → Nat} {dA : FieldType → ClassId} {I : Hi} {a : Nat} (ha : a < Ga.length) (sh : Shp) {e : va_E} (he : e = zcell ad dA (I a) sh) : (zws Ga ad dA I).set a (ad a, e) = zws (Ga.set a sh) ad dA I := by
  subst he
  apply List.ext_getElem?
  intro i
  simp only [List.getElem?_set, zws, List.getElem?_mapIdx, List.length_mapIdx]
  by_cases hi : a = i
  · subst hi; simp [ha]
  · simp [hi]
theorem zA_set {G : Gx} {Ga : List Shp} {sz a : Nat} {sh : Shp} : zA G (Ga.set a sh) sz = zA G Ga sz := by
  unfold zA; rw [List.length_set]
theorem Rn.putR {idx ci j a r : Nat} {fl : List (Option (Option Nat))} {ty : FieldType} {x : Option Nat} (hd : decode Y.2.1 pc = .ok (.putfield idx, 3)) (hF : zFf Y.1.cls idx ci j ty) (hin : Y.1.name = "<init>") (hG : Ga[a]? = some (.inl (ci, fl))) (hj : fl[j]? = some (some x))
    (hn : ∀ q : Nat, narrow ty (.ref q) = .ref q ∧ fits ty (.ref q) = true) (k : Rn G (Ga.set a (.inl (ci, fl.set j (some (some r))))) Y kx d b pc' ls st I) (hp : pc + 3 = pc' := by rfl) : Rn G Ga Y kx d b pc ls (.ref r :: .ref a :: st) I := by
  subst hp
  obtain ⟨C, T, N, ref, ty0, h1, h2, h3, h4, h5, h6, h7, h8, h10, h9⟩ := hF
  intro p e R s m args below meth c H locs cells slots tc ts Z F hk lsA hl
  obtain ⟨F1, ⟨hP, hD, hS⟩, F3, F4, F5, F6, F7, F8, Fn⟩ := F
  have hlen : j < ((fl.mapIdx (fun q y => zfv (gad G) (I a q) y)) : List Value).length := by
    rw [List.length_mapIdx]; exact (List.getElem?_eq_some_iff.mp hj).1
  have ha : a < Ga.length := (List.getElem?_eq_some_iff.mp hG).1
  have hc : (.inr (ci, (fl.mapIdx (fun q y => zfv (gad G) (I a q) y)).set j (.ref (gad G r))) : va_E) = zcell (gad G) (gA G) (I a) (.inl (ci, fl.set j (some (some r)))) := by
    show (_ : va_E) = .inr (ci, (fl.set j (some (some r))).mapIdx (fun q y => zfv (gad G) (I a q) y))
    congr 2
    apply List.ext_getElem?
    intro i
    simp only [List.getElem?_set, List.getElem?_mapIdx, List.length_mapIdx]
    have hjl : j < fl.length := (List.getElem?_eq_some_iff.mp hj).1
    by_cases hi : j = i
    · subst hi; simp [hjl, zfv, va_rf]
    · simp [hi]
  have kk : ∀ (H1 : Heap) (locs1 : List Loc), va_P (gD G) vwCl ((zws Ga (gad G) (gA G) I).set a (gad G a, .inr (ci, (fl.mapIdx (fun q y => zfv (gad G) (I a q) y)).set j (.ref (gad G r))))) H1 → va_D (zA G Ga s.heap.size) ((zws Ga (gad G) (gA G) I).set a (gad G a, .inr (ci, (fl.mapIdx (fun q y => zfv (gad G) (I a q) y)).set j (.ref (gad G r))))) → va_S (zA G Ga s.heap.size) s.heap H1 locs1 → W p (gL G) e R s m args below meth c H1 locs1 cells slots Z (F0 m (pc + 3) lsA (st.map (zr (gad G)))) := by
    intro H1 locs1 hP1 hD1 hS1
    rw [zws_sh ha _ hc] at hP1 hD1
    exact k p e R s m args below meth c H1 locs1 cells slots tc ts Z ⟨⟨F1.1, F1.2.1, F1.2.2.1, F1.2.2.2.1, F1.2.2.2.2.1, F1.2.2.2.2.2.1, F1.2.2.2.2.2.2.1, by rw [zA_set]; exact F1.2.2.2.2.2.2.2⟩, ⟨hP1, by rw [zA_set]; exact hD1, by rw [zA_set]; exact hS1⟩, F3, F4, F5, F6, F7, F8, Fn⟩ hk lsA hl
  rcases h5 with h5 | ⟨host, h5⟩
  · exact va_putF F1.1 F1.2.1 F1.2.2.2.2.2.2.1 h3 ty0 h6 h7 F1.2.2.2.2.2.1 F1.2.2.2.2.2.2.2.1 hP hD hS a (zws_get hG) h1 j h2 (F1.2.2.2.2.2.2.1 _ h5) (zsame F1.2.2.2.2.2.2.1 h4) h8 (Fn.trans hin) h10 h9 (hn _).1 (hn _).2 hlen hd kk
  · exfalso
    have : ∀ r ∈ zNl, r.1 ≠ r.2.2.1 := by decide +kernel
    have h11 := this _ h5
    rcases h4 with h4 | h4
    · exact h11 (by show Y.1.cls = ref; rw [h4, h10])
    · have : ∀ r ∈ zNl, ∀ w ∈ WA, (match w with | .sameField a b n d => decide (a = r.2.2.1 ∧ n = r.2.2.2.1) | _ => false) = false := by decide +kernel
      have h12 := this _ h5 _ h4
      simp at h12
theorem Rn.putFI {idx ci j a : Nat} {fl : List (Option (Option Nat))} {ty : FieldType} {v : Int32} (hd : decode Y.2.1 pc = .ok (.putfield idx, 3)) (hF : zFf Y.1.cls idx ci j ty) (hin : Y.1.name = "<init>") (hl5 : ∀ r ∈ zNl, ¬ (r.1 = Y.1.cls ∧ r.2.1 = idx)) (hG : Ga[a]? = some (.inl (ci, fl))) (hj : fl[j]? = some none)
    (hn : narrow ty (.int v) = .int v ∧ fits ty (.int v) = true) (k : Rn G Ga Y kx d b pc' ls st (zup I a j v)) (hp : pc + 3 = pc' := by rfl) : Rn G Ga Y kx d b pc ls (.int v :: .ref a :: st) I := by
  subst hp
  obtain ⟨C, T, N, ref, ty0, h1, h2, h3, h4, h5, h6, h7, h8, h10, h9⟩ := hF
  intro p e R s m args below meth c H locs cells slots tc ts Z F hk lsA hl
  obtain ⟨F1, ⟨hP, hD, hS⟩, F3, F4, F5, F6, F7, F8, Fn⟩ := F
  have hlen : j < ((fl.mapIdx (fun q y => zfv (gad G) (I a q) y)) : List Value).length := by
    rw [List.length_mapIdx]; exact (List.getElem?_eq_some_iff.mp hj).1
  have kk : ∀ (H1 : Heap) (locs1 : List Loc), va_P (gD G) vwCl ((zws Ga (gad G) (gA G) I).set a (gad G a, .inr (ci, (fl.mapIdx (fun q y => zfv (gad G) (I a q) y)).set j (.int v)))) H1 → va_D (zA G Ga s.heap.size) ((zws Ga (gad G) (gA G) I).set a (gad G a, .inr (ci, (fl.mapIdx (fun q y => zfv (gad G) (I a q) y)).set j (.int v)))) → va_S (zA G Ga s.heap.size) s.heap H1 locs1 → W p (gL G) e R s m args below meth c H1 locs1 cells slots Z (F0 m (pc + 3) lsA (st.map (zr (gad G)))) := by
    intro H1 locs1 hP1 hD1 hS1
    rw [zws_set hG (upd (I a) j v) (zcell_fset (dA := gA G) hj v)] at hP1 hD1
    exact k p e R s m args below meth c H1 locs1 cells slots tc ts Z ⟨F1, ⟨hP1, hD1, hS1⟩, F3, F4, F5, F6, F7, F8, Fn⟩ hk lsA hl
  rcases h5 with h5 | ⟨host, h5⟩
  · exact va_putF F1.1 F1.2.1 F1.2.2.2.2.2.2.1 h3 ty0 h6 h7 F1.2.2.2.2.2.1 F1.2.2.2.2.2.2.2.1 hP hD hS a (zws_get hG) h1 j h2 (F1.2.2.2.2.2.2.1 _ h5) (zsame F1.2.2.2.2.2.2.1 h4) h8 (Fn.trans hin) h10 h9 hn.1 hn.2 hlen hd kk
  · exact absurd ⟨rfl, rfl⟩ (hl5 _ h5)
end GrowPut
