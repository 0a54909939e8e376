abbrev vwCl : List vw_C := [(RX0, TX0, 12), (RX1, TX1, 3), (RX2, TX2, 8), (RX3, TX3, 3), (RX5, TX5, 3), (RX6, TX6, 1), (RX7, TX7, 8), (RX8, TX8, 7), (RX9, TX9, 13), (RX10, TX10, 23)]
def zSR : List (String × Nat × String × Nat) := [("BorrowedLuckModel", 151, "woman", 1000), ("BorrowedLuckModel", 131, "purse", 1001), ("BorrowedLuckModel", 137, "wed", 1002), ("BorrowedLuckModel", 142, "widow", 1003), ("BorrowedLuckModel", 157, "thing", 1004), ("BorrowedLuckModel", 144, "of", 1005), ("BorrowedLuckModel", 145, "worn", 1006), ("BorrowedLuckModel", 147, "with", 1007), ("BorrowedLuckModel", 149, "blue", 1008), ("BorrowedLuckModel", 162, "price", 1009), ("BorrowedLuckModel", 164, "love", 1010), ("BorrowedLuckModel", 166, "day", 1011), ("BorrowedLuckModel", 218, "flow", 1012), ("BorrowedLuckModel", 173, "wear", 1013), ("BorrowedLuckModel", 220, "stick", 1014), ("BorrowedLuckModel", 222, "if", 1015), ("BorrowedLuckModel", 200, "not", 1016), ("BorrowedLuckModel", 192, "own", 1017), ("BorrowedLuckModel", 171, "sort", 1018), ("BorrowedLuckModel", 175, "has", 1019), ("BorrowedLuckModel", 177, "holds", 1020), ("BorrowedLuckModel", 211, "and", 1021), ("BorrowedLuckModel", 216, "or", 1022), ("BorrowedLuck", 105, "the text is wrong", 1023), ("BorrowedLuck", 115, "there are 12 texts", 1024), ("BorrowedLuck", 361, "there is no such woman", 1025), ("BorrowedLuck", 153, "a woman has no such number", 1026), ("BorrowedLuck", 364, "there is no such thing", 1027), ("BorrowedLuck", 165, "a thing has no such number", 1028), ("BorrowedLuck", 366, "there is no such sort", 1029), ("BorrowedLuck", 178, "she holds it", 1030), ("BorrowedLuck", 186, "it may not be lent to her", 1031), ("BorrowedLuck", 196, "she does not hold it", 1032), ("BorrowedLuck", 204, "it cannot be pawned", 1033), ("BorrowedLuck", 217, "it cannot be bought back", 1034), ("BorrowedLuck", 219, "it is not stuck", 1035), ("BorrowedLuck", 224, "they are 1 to 60", 1036), ("BorrowedLuck", 373, "they are more than 5", 1037), ("BorrowedLuck", 250, "x is 1 to 99", 1038), ("BorrowedLuck", 256, "both are one", 1039), ("BorrowedLuck", 276, "the tape does not tell luck", 1040), ("BorrowedLuck", 301, "a price is 0 to 50", 1041), ("BorrowedLuck", 309, "weddings are 0 to 60", 1042), ("BorrowedLuck", 368, "days of a trial are 0 to 60", 1043), ("BorrowedLuck", 336, "a row has no such number", 1044)]
def zsN : Nat := 23
def zsLen : List Nat := [5, 5, 3, 5, 5, 2, 4, 4, 4, 5, 4, 3, 4, 4, 5, 2, 3, 3, 4, 3, 5, 3, 2]
def zsByt : List (List Int32) := [[119, 111, 109, 97, 110], [112, 117, 114, 115, 101], [119, 101, 100], [119, 105, 100, 111, 119], [116, 104, 105, 110, 103], [111, 102], [119, 111, 114, 110], [119, 105, 116, 104], [98, 108, 117, 101], [112, 114, 105, 99, 101], [108, 111, 118, 101], [100, 97, 121], [102, 108, 111, 119], [119, 101, 97, 114], [115, 116, 105, 99, 107], [105, 102], [110, 111, 116], [111, 119, 110], [115, 111, 114, 116], [104, 97, 115], [104, 111, 108, 100, 115], [97, 110, 100], [111, 114]]
def zNl : List (String × Nat × String × String × String × String) := [("BorrowedLuck", 84, "BorrowedLuck$Tape", "length", "I", "BorrowedLuck"), ("BorrowedLuck", 134, "BorrowedLuck$Tape", "at", "I", "BorrowedLuck"), ("BorrowedLuck$LawReader", 55, "BorrowedLuck$Tape", "word", "I", "BorrowedLuck"), ("BorrowedLuck$LawReader", 73, "BorrowedLuck$Tape", "number", "I", "BorrowedLuck"), ("BorrowedLuck$LawReader", 76, "BorrowedLuck$Tape", "first", "I", "BorrowedLuck"), ("BorrowedLuck$CoastReader", 15, "BorrowedLuck$Coast", "women", "I", "BorrowedLuck"), ("BorrowedLuck$Rites", 59, "BorrowedLuck$Coast", "women", "I", "BorrowedLuck"), ("BorrowedLuck", 278, "BorrowedLuck$Coast", "women", "I", "BorrowedLuck"), ("BorrowedLuck$CoastReader", 35, "BorrowedLuck$Coast", "things", "I", "BorrowedLuck"), ("BorrowedLuck$Rites", 66, "BorrowedLuck$Coast", "things", "I", "BorrowedLuck"), ("BorrowedLuck$Search", 79, "BorrowedLuck$Coast", "things", "I", "BorrowedLuck"), ("BorrowedLuck", 230, "BorrowedLuck$Coast", "things", "I", "BorrowedLuck"), ("BorrowedLuck", 110, "BorrowedLuck$Coast", "texts", "I", "BorrowedLuck"), ("BorrowedLuck$CoastReader", 54, "BorrowedLuck$Coast", "today", "I", "BorrowedLuck"), ("BorrowedLuck$Rites", 83, "BorrowedLuck$Coast", "today", "I", "BorrowedLuck"), ("BorrowedLuck", 346, "BorrowedLuck$Coast", "today", "I", "BorrowedLuck"), ("BorrowedLuck$CoastReader", 47, "BorrowedLuck$Coast", "price", "I", "BorrowedLuck"), ("BorrowedLuck", 206, "BorrowedLuck$Coast", "price", "I", "BorrowedLuck"), ("BorrowedLuck$CoastReader", 51, "BorrowedLuck$Coast", "love", "I", "BorrowedLuck"), ("BorrowedLuck$Rites", 80, "BorrowedLuck$Coast", "love", "I", "BorrowedLuck"), ("BorrowedLuck", 349, "BorrowedLuck$Coast", "love", "I", "BorrowedLuck"), ("BorrowedLuck", 327, "BorrowedLuck$Coast", "randomness", "I", "BorrowedLuck"), ("BorrowedLuck", 330, "BorrowedLuck$Coast", "rows", "I", "BorrowedLuck"), ("BorrowedLuck", 131, "BorrowedLuck$Law", "lines", "I", "BorrowedLuck"), ("BorrowedLuck", 125, "BorrowedLuck$Rites", "rule", "LBorrowedLuck$Law;", "BorrowedLuck"), ("BorrowedLuck", 247, "BorrowedLuck$Search", "size", "I", "BorrowedLuck"), ("BorrowedLuck", 358, "BorrowedLuck$Memory", "size", "I", "BorrowedLuck")]
def zNm : List (String × Nat × MethodName × String) := [("BorrowedLuck", 9, ⟨"BorrowedLuck$Tape", "<init>", "()V"⟩, "BorrowedLuck"), ("BorrowedLuck", 18, ⟨"BorrowedLuck$Coast", "<init>", "()V"⟩, "BorrowedLuck"), ("BorrowedLuck", 31, ⟨"BorrowedLuck$Rites", "<init>", "()V"⟩, "BorrowedLuck"), ("BorrowedLuck$Rites", 11, ⟨"BorrowedLuck$Law", "<init>", "()V"⟩, "BorrowedLuck"), ("BorrowedLuck", 38, ⟨"BorrowedLuck$Law", "<init>", "()V"⟩, "BorrowedLuck"), ("BorrowedLuck$Memory", 17, ⟨"BorrowedLuck$Coast", "<init>", "()V"⟩, "BorrowedLuck")]
def zDc : List MethodName := [⟨"BorrowedLuck$LineReader", "readsText", "()Z"⟩, ⟨"BorrowedLuck$LineReader", "readsLine", "()Z"⟩, ⟨"java/lang/RuntimeException", "<init>", "()V"⟩, ⟨"java/lang/RuntimeException", "<init>", "(Ljava/lang/String;)V"⟩, ⟨"java/lang/Exception", "<init>", "()V"⟩, ⟨"java/lang/Exception", "<init>", "(Ljava/lang/String;)V"⟩, ⟨"java/lang/Throwable", "<init>", "()V"⟩, ⟨"java/lang/Throwable", "<init>", "(Ljava/lang/String;)V"⟩]
/-! ===== the small machine: a world of fixed shape, ids in place of addresses ===== -/
abbrev Hi : Type := Nat → Nat → Int32
abbrev Rs : Type := Option Value ⊕ String
abbrev Shp : Type := (Nat × List (Option (Option Nat))) ⊕ (FieldType × Nat × (Nat → Option Nat))
abbrev Gx : Type := Launch × (Nat → ClassId) × (Nat → Nat → Nat) × (Nat → Nat) × (FieldType → ClassId) × (Nat → Nat)
abbrev Ym : Type := MethodName × ByteArray × Nat × Option FieldType
abbrev gL (G : Gx) : Launch := G.1
abbrev gD (G : Gx) : va_G := (G.2.1, G.2.2.1)
abbrev gad (G : Gx) : Nat → Nat := G.2.2.2.1
abbrev gA (G : Gx) : FieldType → ClassId := G.2.2.2.2.1
abbrev gV (G : Gx) : Nat → Nat := G.2.2.2.2.2
def WA : List Cond := lw_tbl.filter goodWord
def zr (ad : Nat → Nat) : Value → Value
  | .ref a => .ref (ad a)
  | v => v
theorem zr_cat (ad : Nat → Nat) (v : Value) : (zr ad v).category = v.category := by cases v <;> rfl
def zfv (ad : Nat → Nat) (x : Int32) : Option (Option Nat) → Value
  | none => .int x
  | some r => va_rf (r.map ad)
def zarr (ad : Nat → Nat) (g : Nat → Int32) (f : Nat → Option Nat) : FieldType → ((Nat → Int32) ⊕ (Nat → Int64) ⊕ (Nat → UInt32) ⊕ (Nat → UInt64) ⊕ (Nat → Option Nat))
  | .object _ => .inr (.inr (.inr (.inr (fun j => (f j).map ad))))
  | .long => .inr (.inl (fun j => (g j).toInt64))
  | _ => .inl g
def zcell (ad : Nat → Nat) (dA : FieldType → ClassId) (g : Nat → Int32) : Shp → va_E
  | .inl q => .inr (q.1, q.2.mapIdx (fun j x => zfv ad (g j) x))
  | .inr q => .inl (dA q.1, q.2.1, zarr ad g q.2.2 q.1)
def zws (Ga : List Shp) (ad : Nat → Nat) (dA : FieldType → ClassId) (I : Hi) : va_W := Ga.mapIdx (fun k sh => (ad k, zcell ad dA (I k) sh))
def zset (I : Hi) (a : Nat) (g : Nat → Int32) : Hi := fun k => if k = a then g else I k
def zup (I : Hi) (a j : Nat) (v : Int32) : Hi := zset I a (upd (I a) j v)
theorem zws_get {Ga : List Shp} {ad : Nat → Nat} {dA : FieldType → ClassId} {I : Hi} {k : Nat} {sh : Shp} (h : Ga[k]? = some sh) : (zws Ga ad dA I)[k]? = some (ad k, zcell ad dA (I k) sh) := by
  simp [zws, h]
theorem zws_len {Ga : List Shp} {ad : Nat → Nat} {dA : FieldType → ClassId} {I : Hi} : (zws Ga ad dA I).length = Ga.length := by simp [zws]
theorem zws_set {Ga : List Shp} {ad : Nat → Nat} {dA : FieldType → ClassId} {I : Hi} {a : Nat} {sh : Shp} (h : Ga[a]? = some sh) (g : Nat → Int32) {e : va_E} (he : e = zcell ad dA g sh) : (zws Ga ad dA I).set a (ad a, e) = zws Ga ad dA (zset I a g) := by
  subst he
  apply List.ext_getElem?
  intro i
  rw [List.getElem?_set]
  by_cases hi : a = i
  · subst hi
    have hlt : a < (zws Ga ad dA I).length := by rw [zws_len]; exact (List.getElem?_eq_some_iff.mp h).1
    rw [if_pos rfl, if_pos hlt, zws_get h]
    simp [zset]
  · rw [if_neg hi]
    simp only [zws, List.getElem?_mapIdx]
    cases Ga[i]? with
    | none => rfl
    | some s2 => simp [zset, show ¬ i = a from fun q => hi q.symm]
theorem zcell_fset {ad : Nat → Nat} {dA : FieldType → ClassId} {g : Nat → Int32} {ci k : Nat} {fl : List (Option (Option Nat))} (hk : fl[k]? = some none) (v : Int32) : (.inr (ci, (fl.mapIdx (fun j x => zfv ad (g j) x)).set k (.int v)) : va_E) = zcell ad dA (upd g k v) (.inl (ci, fl)) := by
  show (_ : va_E) = .inr (ci, fl.mapIdx (fun j x => zfv ad (upd g k v j) x))
  congr 2
  apply List.ext_getElem?
  intro i
  rw [List.getElem?_set]
  by_cases hi : k = i
  · subst hi
    have hlt : k < (fl.mapIdx (fun j x => zfv ad (g j) x)).length := by rw [List.length_mapIdx]; exact (List.getElem?_eq_some_iff.mp hk).1
    rw [if_pos rfl, if_pos hlt, List.getElem?_mapIdx, hk]
    simp [zfv, upd]
  · rw [if_neg hi]
    simp only [List.getElem?_mapIdx]
    cases fl[i]? with
    | none => rfl
    | some s2 => simp [upd, show ¬ i = k from fun q => hi q.symm]
def zA (G : Gx) (Ga : List Shp) (sz : Nat) : Nat → Prop := fun q => (∃ k, k < Ga.length ∧ q = gad G k) ∨ sz ≤ q
theorem zA_D {G : Gx} {Ga : List Shp} {sz : Nat} {I : Hi} {A : Nat → Prop} (h : va_D A (zws Ga (gad G) (gA G) I)) : va_D (zA G Ga sz) (zws Ga (gad G) (gA G) I) := by
  refine ⟨h.1, fun k q hk => Or.inl ⟨k, ?_, ?_⟩⟩
  · have := (List.getElem?_eq_some_iff.mp hk).1
    rwa [zws_len] at this
  · have hlt : k < Ga.length := by
      have := (List.getElem?_eq_some_iff.mp hk).1
      rwa [zws_len] at this
    rw [zws_get (List.getElem?_eq_getElem hlt)] at hk
    cases hk; rfl
theorem zA_D2 {G : Gx} {Ga : List Shp} {I J : Hi} {A : Nat → Prop} (h : va_D A (zws Ga (gad G) (gA G) I)) : va_D A (zws Ga (gad G) (gA G) J) := by
  have key : ∀ (k : Nat) (q : Nat × va_E), (zws Ga (gad G) (gA G) J)[k]? = some q → ∃ q' : Nat × va_E, (zws Ga (gad G) (gA G) I)[k]? = some q' ∧ q'.1 = q.1 := by
    intro k q hk
    have hlt : k < Ga.length := by
      have := (List.getElem?_eq_some_iff.mp hk).1
      rwa [zws_len] at this
    rw [zws_get (List.getElem?_eq_getElem hlt)] at hk
    cases hk
    exact ⟨_, zws_get (List.getElem?_eq_getElem hlt), rfl⟩
  refine ⟨fun i j p q hi hj e => ?_, fun k q hk => ?_⟩
  · obtain ⟨p', hp', e1⟩ := key i p hi
    obtain ⟨q', hq', e2⟩ := key j q hj
    exact h.1 i j p' q' hp' hq' (by rw [e1, e2]; exact e)
  · obtain ⟨q', hq', e2⟩ := key k q hk
    rw [← e2]
    exact h.2 k q' hq'
def ztys (dA : FieldType → ClassId) : List (ClassId × FieldType) := [(dA .int, .int), (dA .byte, .byte), (dA .long, .long), (dA (.object "BorrowedLuck$Coast"), .object "BorrowedLuck$Coast")]
/-- what every frame knows of the tables and of what lies outside the world -/
def zCs : List String := ["java/lang/IllegalArgumentException", "java/lang/UnsupportedOperationException", "java/lang/IndexOutOfBoundsException", "java/util/NoSuchElementException", "java/lang/IllegalStateException"]
/-- pairs of exceptions of which none is the other; the text constants; two statics -/
def zXt (G : Gx) (A : Nat → Prop) (U : State) (H : Heap) : Prop := (∀ E ∈ zCs, ∀ F ∈ zCs, E ≠ F → va_Nc E F U) ∧ vk_S zsN zsLen zsByt (fun i => gad G (1000 + i)) (fun i => gad G (1100 + i)) A U H ∧ va_Z "java/lang/String" "COMPACT_STRINGS" "Z" (.int 1) A U H ∧ (va_Z "jdk/internal/util/Preconditions" "SIOOBE_FORMATTER" "Ljava/util/function/BiFunction;" .null A U H ∨ va_Z "jdk/internal/util/Preconditions" "SIOOBE_FORMATTER" "Ljava/util/function/BiFunction;" (.ref (gad G 1999)) A U H)
theorem zXt.moved {G : Gx} {A : Nat → Prop} {u U : State} {H : Heap} (hal : u.vm.Alike U.vm) (h : zXt G A u H) : zXt G A U H :=
  ⟨fun E hE F hF hn => (h.1 E hE F hF hn).moved hal, h.2.1.moved hal, va_Z.moved hal h.2.2.1, h.2.2.2.imp (va_Z.moved hal) (va_Z.moved hal)⟩
theorem zXt.kept {G : Gx} {A B : Nat → Prop} {U : State} {H H1 : Heap} (h : zXt G A U H) (hq : ∀ a : Nat, a < H.size → ¬ A a → H1[a]? = H[a]?) (hB : ∀ q, B q → A q) : zXt G B U H1 :=
  ⟨h.1, (h.2.1.kept hq).narrow hB, (h.2.2.1.kept hq).narrow hB, h.2.2.2.imp (fun q => (q.kept hq).narrow hB) (fun q => (q.kept hq).narrow hB)⟩
def zK (G : Gx) (A : Nat → Prop) (U : State) (H : Heap) : Prop :=
  va_K (gD G) vwCl (ztys (gA G)) U ∧ (∀ r ∈ zNl, va_Nw (.fieldLinkNest r.1 r.2.1 r.2.2.1 r.2.2.2.1 r.2.2.2.2.1 r.2.2.2.2.2) U) ∧ (∀ r ∈ zSR, vk_R r.1 r.2.1 r.2.2.1 (gad G r.2.2.2) U) ∧ vx_Zq Bundle.tN "UNASSIGNED_STACK" Bundle.steD A U H ∧ vx_Zq Bundle.tN "SUPPRESSED_SENTINEL" Bundle.listD A U H ∧ ((∀ E ∈ zCs, va_Nw (.castable E E) U) ∧ (∀ r ∈ zNm, va_Nw (.methodLinkNest r.1 r.2.1 r.2.2.1 r.2.2.2) U) ∧ (∀ x ∈ zDc, va_Nw (.declares x) U) ∧ va_AO "BorrowedLuck$Coast" U ∧ zXt G A U H) ∧ (gL G).stackTraces = false
theorem zK.blind {G : Gx} {A : Nat → Prop} {U V : State} {H : Heap} (hv : U.vm = V.vm) (h : zK G A U H) : zK G A V H := by
  obtain ⟨h1, h2, h3, h4, h5, ⟨h6, h7, h9, h10, h11⟩, h8⟩ := h
  have hal : U.vm.Alike V.vm := by rw [hv]; exact Vm.Alike.refl _
  exact ⟨va_K.moved hal h1, fun r hr => va_Nw.same rfl hv (h2 r hr), fun r hr => vk_R.same hv.symm (h3 r hr), h4.moved hal, h5.moved hal, ⟨fun r hr => va_Nw.same rfl hv (h6 r hr), fun r hr => va_Nw.same rfl hv (h7 r hr), fun r hr => va_Nw.same rfl hv (h9 r hr), h10.moved hal, h11.moved hal⟩, h8⟩
theorem zK.on {G : Gx} {A B : Nat → Prop} {s U : State} {H : Heap} {locs : List Loc} (hW : s.WarmedH U.vm) (hS : va_S A s.heap H locs) (hB : ∀ q, B q → A q) (h : zK G A s s.heap) : zK G B U H := by
  obtain ⟨h1, h2, h3, h4, h5, ⟨h6, h7, h9, h10, h11⟩, h8⟩ := h
  exact ⟨va_K.moved hW.alike h1, fun r hr => va_Nw.warmF hW (h2 r hr), fun r hr => vk_R.warm hW (h3 r hr), ((h4.moved hW.alike).kept hS.2.1).narrow hB, ((h5.moved hW.alike).kept hS.2.1).narrow hB, ⟨fun r hr => va_Nw.warmC hW (h6 r hr), fun r hr => va_Nw.warmM hW (h7 r hr), fun r hr => va_Nw.warmD hW (h9 r hr), h10.moved hW.alike, (h11.moved hW.alike).kept hS.2.1 hB⟩, h8⟩
/-- the locals that are known, by their places -/
def zl (ad : Nat → Nat) : Nat → List (Option Value) → List (Nat × Value)
  | _, [] => []
  | i, none :: r => zl ad (i + 1) r
  | i, some v :: r => if v.category = 1 then (i, zr ad v) :: zl ad (i + 1) r else zl ad (i + 1) r
theorem zl_mem {ad : Nat → Nat} {v : Value} (hv : v.category = 1) : ∀ {ls : List (Option Value)} {i k : Nat}, ls[k]? = some (some v) → (i + k, zr ad v) ∈ zl ad i ls := by
  intro ls
  induction ls with
  | nil => intro i k h; simp at h
  | cons x r ih =>
    intro i k h
    cases k with
    | zero =>
      simp at h
      subst h
      simp [zl, hv]
    | succ k =>
      have h2 : r[k]? = some (some v) := by simpa using h
      have h3 := ih (i := i + 1) h2
      rw [show i + 1 + k = i + (k + 1) by omega] at h3
      cases x with
      | none => exact h3
      | some w =>
        simp only [zl]
        split
        · exact List.mem_cons_of_mem _ h3
        · exact h3
theorem zl_inv {ad : Nat → Nat} : ∀ {ls : List (Option Value)} {i : Nat} {q : Nat × Value}, q ∈ zl ad i ls → ∃ k v, q = (i + k, zr ad v) ∧ ls[k]? = some (some v) ∧ v.category = 1 := by
  intro ls
  induction ls with
  | nil => intro i q h; simp [zl] at h
  | cons x r ih =>
    intro i q h
    have key : q ∈ zl ad (i + 1) r → ∃ k v, q = (i + k, zr ad v) ∧ (x :: r)[k]? = some (some v) ∧ v.category = 1 := by
      intro h2
      obtain ⟨k, v, e1, e2, e3⟩ := ih h2
      exact ⟨k + 1, v, by rw [e1]; congr 1; omega, by simpa using e2, e3⟩
    cases x with
    | none => exact key h
    | some w =>
      simp only [zl] at h
      split at h
      · rename_i hw
        rcases List.mem_cons.mp h with h1 | h1
        · exact ⟨0, w, by rw [h1]; rfl, by simp, hw⟩
        · exact key h1
      · exact key h
theorem zl_at {ad : Nat → Nat} {ls : List (Option Value)} {lsA : Array Slot} {nL k : Nat} {v : Value} (h : lv_has lsA nL (zl ad 0 ls)) (hk : ls[k]? = some (some v)) (hv : v.category = 1) : lsA[k]? = some (.val (zr ad v)) := by
  have := h.2.2 _ (zl_mem (ad := ad) (i := 0) hv hk)
  simpa using this
theorem zl_set {ad : Nat → Nat} {ls : List (Option Value)} {lsA : Array Slot} {nL k : Nat} {v : Value} (h : lv_has lsA nL ((k, zr ad v) :: (zl ad 0 ls).filter (fun q => !(q.1 == k) && !(q.1 + 1 == k && q.2.category == 2)))) : lv_has lsA nL (zl ad 0 (ls.set k (some v))) := by
  refine ⟨h.1, h.2.1, fun q hq => h.2.2 q ?_⟩
  obtain ⟨j, w, e1, e2, e3⟩ := zl_inv hq
  rw [List.getElem?_set] at e2
  by_cases hj : k = j
  · subst hj
    rw [if_pos rfl] at e2
    split at e2
    · cases e2
      rw [e1]
      simp
    · cases e2
  · rw [if_neg hj] at e2
    refine List.mem_cons_of_mem _ (List.mem_filter.mpr ⟨?_, ?_⟩)
    · rw [e1]
      exact zl_mem e3 e2
    · rw [e1]
      simp [zr_cat, e3, show ¬ j = k from fun q => hj q.symm]
/-- what a frame stands on -/
def zFr (G : Gx) (Ga : List Shp) (Y : Ym) (d b : Nat) (I : Hi) (p : Program) (R : Room) (s : State) (m : MethodId) (args : Array Value) (meth : Method) (c : Code) (H : Heap) (locs : List Loc) (cells slots tc ts : Nat) : Prop :=
  (p.tables.exec = Jvm.exec ∧ c.code = Y.2.1 ∧ c.maxLocals = Y.2.2.1 ∧ meth.sig.returnType = Y.2.2.2 ∧ meth.locks = false ∧ s.vm.findClass Y.1.cls = some m.cls ∧ (∀ w ∈ WA, w.before args s = true) ∧ zK G (zA G Ga s.heap.size) s s.heap) ∧
  (va_P (gD G) vwCl (zws Ga (gad G) (gA G) I) H ∧ va_D (zA G Ga s.heap.size) (zws Ga (gad G) (gA G) I) ∧ va_S (zA G Ga s.heap.size) s.heap H locs) ∧
  d + 8 ≤ R.frames ∧ 40 * d + 200 ≤ R.locals ∧ cells + b ≤ tc ∧ slots + 6 * b ≤ ts ∧ tc ≤ R.cells ∧ ts ≤ R.slots ∧ meth.name = Y.1.name
theorem zFr.xt {G : Gx} {Ga : List Shp} {Y : Ym} {d b : Nat} {I : Hi} {p : Program} {R : Room} {s : State} {m : MethodId} {args : Array Value} {meth : Method} {c : Code} {H : Heap} {locs : List Loc} {cells slots tc ts : Nat} (F : zFr G Ga Y d b I p R s m args meth c H locs cells slots tc ts) : zXt G (zA G Ga s.heap.size) s s.heap := F.1.2.2.2.2.2.2.2.2.2.2.2.2.1.2.2.2.2
abbrev Kx : Type := State → Array Value → List Frame → Code → Nat → Nat → (State → Prop) → Prop
/-- from this frame on the machine comes to its end, as kx says -/
def Rn (G : Gx) (Ga : List Shp) (Y : Ym) (kx : Kx) (d b pc : Nat) (ls : List (Option Value)) (st : List Value) (I : Hi) : Prop :=
  ∀ (p : Program) (e : Env) (R : Room) (s : State) (m : MethodId) (args : Array Value) (below : List Frame) (meth : Method) (c : Code) (H : Heap) (locs : List Loc) (cells slots tc ts : Nat) (Z : State → Prop),
    zFr G Ga Y d b I p R s m args meth c H locs cells slots tc ts → kx s args below c tc ts Z → ∀ lsA : Array Slot, lv_has lsA Y.2.2.1 (zl (gad G) 0 ls) →
    W p (gL G) e R s m args below meth c H locs cells slots Z (F0 m pc lsA (st.map (zr (gad G))))
def zQ (G : Gx) (Ga : List Shp) (Q : Rs → Hi → Prop) (sz : Nat) : Array Value → State → Outcome → State → Prop := fun _ st oc t =>
  (∃ (v : Option Value) (J : Hi), oc = .returned (v.map (zr (gad G))) ∧ Q (.inl v) J ∧ va_P (gD G) vwCl (zws Ga (gad G) (gA G) J) t.heap) ∧ va_F (zA G Ga sz) st t
def zX (G : Gx) (Ga : List Shp) (Q : Rs → Hi → Prop) (sz : Nat) : String → State → State → Prop := fun E st t =>
  (∃ J : Hi, Q (.inr E) J ∧ va_P (gD G) vwCl (zws Ga (gad G) (gA G) J) t.heap) ∧ va_F (zA G Ga sz) st t
/-- a method's end: returned or thrown, Q -/
def kM (G : Gx) (Ga : List Shp) (Q : Rs → Hi → Prop) : Kx := fun s args below c tc ts Z =>
  (∀ x ∈ c.exceptionTable.toList, False) ∧ Z = vx_MQ below (zQ G Ga Q s.heap.size) (zX G Ga Q s.heap.size) args s tc ts (zA G Ga s.heap.size)
def zrm (d b : Nat) : Room := { frames := d + 8, cells := b, slots := 6 * b, locals := 40 * d + 200 }
def zwy (y : Ym) : List Cond := Cond.code y.1 y.2.1 y.2.2.1 y.2.2.2 :: WA
def zPc (G : Gx) (Ga : List Shp) (vs : List Value) (I : Hi) (sz : Nat) : Array Value → State → Prop := fun a U =>
  a = (vs.map (zr (gad G))).toArray ∧ U.heap.size = sz ∧ va_P (gD G) vwCl (zws Ga (gad G) (gA G) I) U.heap ∧ va_D (zA G Ga sz) (zws Ga (gad G) (gA G) I) ∧ zK G (zA G Ga sz) U U.heap
/-- a method's contract: called with vs over I it ends with Q; d calls deep, b things thrown at most -/
def Ct (G : Gx) (Ga : List Shp) (y : Ym) (d b : Nat) (vs : List Value) (I : Hi) (Q : Rs → Hi → Prop) : Prop :=
  ∀ sz : Nat, vx_Met (gL G) y.1 (zwy y) (zrm d b) (zPc G Ga vs I sz) (zQ G Ga Q sz) (zX G Ga Q sz) b (6 * b) (zA G Ga sz)
theorem zPc_blind {G : Gx} {Ga : List Shp} {vs : List Value} {I : Hi} {sz : Nat} : FrameBlind (zPc G Ga vs I sz) := by
  intro a U g mk h
  obtain ⟨h1, h2, h3, h4, h5⟩ := h
  exact ⟨h1, h2, h3, h4, h5.blind rfl⟩
theorem zl_args {ad : Nat → Nat} : ∀ (vs : List Value) (i n : Nat), (∀ v ∈ vs, v.category = 1) → zl ad i (vs.map some ++ List.replicate n none) = lv_args i (vs.map (zr ad)) := by
  intro vs
  induction vs with
  | nil =>
    intro i n _
    have : ∀ (n i : Nat), zl ad i (List.replicate n none) = [] := by
      intro n
      induction n with
      | zero => intro i; rfl
      | succ n ih => intro i; rw [List.replicate_succ]; exact ih (i + 1)
    simpa [lv_args] using this n i
  | cons v r ih =>
    intro i n h
    have hv := h v List.mem_cons_self
    simp only [List.map_cons, List.cons_append, zl, lv_args, zr_cat, hv]
    simp
    exact ih (i + 1) n (fun w hw => h w (List.mem_cons_of_mem _ hw))
theorem lg_sl_len {ad : Nat → Nat} : ∀ (vs : List Value), (∀ v ∈ vs, v.category = 1) → (lg_sl (vs.map (zr ad))).length = vs.length := by
  intro vs
  induction vs with
  | nil => intro _; rfl
  | cons v r ih =>
    intro h
    have hv := h v List.mem_cons_self
    have := ih (fun w hw => h w (List.mem_cons_of_mem _ hw))
    simp [lg_sl, zr_cat, hv] at this ⊢
    exact this
theorem Ct.of {G : Gx} {Ga : List Shp} {y : Ym} {d b : Nat} {vs : List Value} {I : Hi} {Q : Rs → Hi → Prop} {ls : List (Option Value)} (hy : plainName y.1.cls = true) (hc : ∀ v ∈ vs, v.category = 1) (hn : vs.length ≤ y.2.2.1)
    (hl : ls = vs.map some ++ List.replicate (y.2.2.1 - vs.length) none) (k : Rn G Ga y (kM G Ga Q) d b 0 ls [] I) : Ct G Ga y d b vs I Q := by
  intro sz
  refine vx_ofW (cc := y.2.1) (maxL := y.2.2.1) (ret := y.2.2.2) hy rfl ?_
  intro p e s m args below meth c s₁ B hml ht hv
  obtain ⟨rfl, rfl, hP, hD, hK⟩ := hv
  have hts := atoms_spec (ws := zwy y) B.pre
  have hown : s.vm.findClass y.1.cls = some m.cls := findClass_of_methodNamed B.named
  have hl9 := lv_entry (vs.map (zr (gad G))) (n := y.2.2.1) (by rw [lg_sl_len vs hc]; exact hn)
  rw [lg_entry_eq]
  have h9 := k p e (zrm d b) s m _ below meth c s.heap [] 0 0 b (6 * b) _ ⟨⟨B.exec, B.bytes, hml, B.returns, B.notSynchronized, hown, fun w hw => hts w (List.mem_cons_of_mem _ hw), hK⟩, ⟨hP, hD, va_S.rf⟩, Nat.le_refl _, Nat.le_refl _, by omega, by omega, Nat.le_refl _, Nat.le_refl _, (name_of_methodNamed B.named B.method).1⟩ ⟨ht, rfl⟩ _ (by rw [hl, zl_args vs 0 _ hc]; exact hl9)
  exact h9
