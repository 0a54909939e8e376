theorem dX10_emits_0 : decode cX10_emits 0 = .ok (.aload_n 0, 1) := by decide +kernel
theorem dX10_emits_1 : decode cX10_emits 1 = .ok (.getfield 13, 3) := by decide +kernel
theorem dX10_emits_4 : decode cX10_emits 4 = .ok (.sipush 1275, 3) := by decide +kernel
theorem dX10_emits_7 : decode cX10_emits 7 = .ok (.iconst 2, 1) := by decide +kernel
theorem dX10_emits_8 : decode cX10_emits 8 = .ok (.aload_n 0, 1) := by decide +kernel
theorem dX10_emits_9 : decode cX10_emits 9 = .ok (.getfield 168, 3) := by decide +kernel
theorem dX10_emits_12 : decode cX10_emits 12 = .ok (.imul, 1) := by decide +kernel
theorem dX10_emits_13 : decode cX10_emits 13 = .ok (.iadd, 1) := by decide +kernel
theorem dX10_emits_14 : decode cX10_emits 14 = .ok (.iload_n 1, 1) := by decide +kernel
theorem dX10_emits_15 : decode cX10_emits 15 = .ok (.iastore, 1) := by decide +kernel
theorem dX10_emits_16 : decode cX10_emits 16 = .ok (.aload_n 0, 1) := by decide +kernel
theorem dX10_emits_17 : decode cX10_emits 17 = .ok (.getfield 13, 3) := by decide +kernel
theorem dX10_emits_20 : decode cX10_emits 20 = .ok (.sipush 1275, 3) := by decide +kernel
theorem dX10_emits_23 : decode cX10_emits 23 = .ok (.iconst 2, 1) := by decide +kernel
theorem dX10_emits_24 : decode cX10_emits 24 = .ok (.aload_n 0, 1) := by decide +kernel
theorem dX10_emits_25 : decode cX10_emits 25 = .ok (.getfield 168, 3) := by decide +kernel
theorem dX10_emits_28 : decode cX10_emits 28 = .ok (.imul, 1) := by decide +kernel
theorem dX10_emits_29 : decode cX10_emits 29 = .ok (.iadd, 1) := by decide +kernel
theorem dX10_emits_30 : decode cX10_emits 30 = .ok (.iconst 1, 1) := by decide +kernel
theorem dX10_emits_31 : decode cX10_emits 31 = .ok (.iadd, 1) := by decide +kernel
theorem dX10_emits_32 : decode cX10_emits 32 = .ok (.iload_n 2, 1) := by decide +kernel
theorem dX10_emits_33 : decode cX10_emits 33 = .ok (.iastore, 1) := by decide +kernel
theorem dX10_emits_34 : decode cX10_emits 34 = .ok (.aload_n 0, 1) := by decide +kernel
theorem dX10_emits_35 : decode cX10_emits 35 = .ok (.dup, 1) := by decide +kernel
theorem dX10_emits_36 : decode cX10_emits 36 = .ok (.getfield 168, 3) := by decide +kernel
theorem dX10_emits_39 : decode cX10_emits 39 = .ok (.iconst 1, 1) := by decide +kernel
theorem dX10_emits_40 : decode cX10_emits 40 = .ok (.iadd, 1) := by decide +kernel
theorem dX10_emits_41 : decode cX10_emits 41 = .ok (.putfield 168, 3) := by decide +kernel
theorem dX10_emits_44 : decode cX10_emits 44 = .ok (.return_, 1) := by decide +kernel
theorem dX10_wordOfPart_0 : decode cX10_wordOfPart 0 = .ok (.aload_n 0, 1) := by decide +kernel
theorem dX10_wordOfPart_1 : decode cX10_wordOfPart 1 = .ok (.ldc 151, 2) := by decide +kernel
theorem sm_X10_151 : (RX10, 151, "woman", 1000) ∈ zSR := by decide +kernel
theorem dX10_wordOfPart_3 : decode cX10_wordOfPart 3 = .ok (.invokevirtual 117, 3) := by decide +kernel
theorem dX10_wordOfPart_6 : decode cX10_wordOfPart 6 = .ok (.ifCond .eq 5, 3) := by decide +kernel
theorem dX10_wordOfPart_9 : decode cX10_wordOfPart 9 = .ok (.iconst 0, 1) := by decide +kernel
theorem dX10_wordOfPart_10 : decode cX10_wordOfPart 10 = .ok (.ireturn, 1) := by decide +kernel
theorem dX10_wordOfPart_11 : decode cX10_wordOfPart 11 = .ok (.aload_n 0, 1) := by decide +kernel
theorem dX10_wordOfPart_12 : decode cX10_wordOfPart 12 = .ok (.ldc 157, 2) := by decide +kernel
theorem sm_X10_157 : (RX10, 157, "thing", 1004) ∈ zSR := by decide +kernel
theorem dX10_wordOfPart_14 : decode cX10_wordOfPart 14 = .ok (.invokevirtual 117, 3) := by decide +kernel
theorem dX10_wordOfPart_17 : decode cX10_wordOfPart 17 = .ok (.ifCond .eq 5, 3) := by decide +kernel
theorem dX10_wordOfPart_20 : decode cX10_wordOfPart 20 = .ok (.iconst 1, 1) := by decide +kernel
theorem dX10_wordOfPart_21 : decode cX10_wordOfPart 21 = .ok (.ireturn, 1) := by decide +kernel
theorem dX10_wordOfPart_22 : decode cX10_wordOfPart 22 = .ok (.aload_n 0, 1) := by decide +kernel
theorem dX10_wordOfPart_23 : decode cX10_wordOfPart 23 = .ok (.ldc 171, 2) := by decide +kernel
theorem sm_X10_171 : (RX10, 171, "sort", 1018) ∈ zSR := by decide +kernel
theorem dX10_wordOfPart_25 : decode cX10_wordOfPart 25 = .ok (.invokevirtual 117, 3) := by decide +kernel
theorem dX10_wordOfPart_28 : decode cX10_wordOfPart 28 = .ok (.ifCond .eq 5, 3) := by decide +kernel
theorem dX10_wordOfPart_31 : decode cX10_wordOfPart 31 = .ok (.iconst 2, 1) := by decide +kernel
theorem dX10_wordOfPart_32 : decode cX10_wordOfPart 32 = .ok (.ireturn, 1) := by decide +kernel
theorem dX10_wordOfPart_33 : decode cX10_wordOfPart 33 = .ok (.aload_n 0, 1) := by decide +kernel
theorem dX10_wordOfPart_34 : decode cX10_wordOfPart 34 = .ok (.ldc 173, 2) := by decide +kernel
theorem sm_X10_173 : (RX10, 173, "wear", 1013) ∈ zSR := by decide +kernel
theorem dX10_wordOfPart_36 : decode cX10_wordOfPart 36 = .ok (.invokevirtual 117, 3) := by decide +kernel
theorem dX10_wordOfPart_39 : decode cX10_wordOfPart 39 = .ok (.ifCond .eq 5, 3) := by decide +kernel
theorem dX10_wordOfPart_42 : decode cX10_wordOfPart 42 = .ok (.iconst 3, 1) := by decide +kernel
theorem dX10_wordOfPart_43 : decode cX10_wordOfPart 43 = .ok (.ireturn, 1) := by decide +kernel
theorem dX10_wordOfPart_44 : decode cX10_wordOfPart 44 = .ok (.aload_n 0, 1) := by decide +kernel
theorem dX10_wordOfPart_45 : decode cX10_wordOfPart 45 = .ok (.ldc 137, 2) := by decide +kernel
theorem sm_X10_137 : (RX10, 137, "wed", 1002) ∈ zSR := by decide +kernel
theorem dX10_wordOfPart_47 : decode cX10_wordOfPart 47 = .ok (.invokevirtual 117, 3) := by decide +kernel
theorem dX10_wordOfPart_50 : decode cX10_wordOfPart 50 = .ok (.ifCond .eq 5, 3) := by decide +kernel
theorem dX10_wordOfPart_53 : decode cX10_wordOfPart 53 = .ok (.iconst 4, 1) := by decide +kernel
theorem dX10_wordOfPart_54 : decode cX10_wordOfPart 54 = .ok (.ireturn, 1) := by decide +kernel
theorem dX10_wordOfPart_55 : decode cX10_wordOfPart 55 = .ok (.aload_n 0, 1) := by decide +kernel
theorem dX10_wordOfPart_56 : decode cX10_wordOfPart 56 = .ok (.ldc 175, 2) := by decide +kernel
theorem sm_X10_175 : (RX10, 175, "has", 1019) ∈ zSR := by decide +kernel
theorem dX10_wordOfPart_58 : decode cX10_wordOfPart 58 = .ok (.invokevirtual 117, 3) := by decide +kernel
theorem dX10_wordOfPart_61 : decode cX10_wordOfPart 61 = .ok (.ifCond .eq 5, 3) := by decide +kernel
theorem dX10_wordOfPart_64 : decode cX10_wordOfPart 64 = .ok (.iconst 5, 1) := by decide +kernel
theorem dX10_wordOfPart_65 : decode cX10_wordOfPart 65 = .ok (.ireturn, 1) := by decide +kernel
theorem dX10_wordOfPart_66 : decode cX10_wordOfPart 66 = .ok (.aload_n 0, 1) := by decide +kernel
theorem dX10_wordOfPart_67 : decode cX10_wordOfPart 67 = .ok (.ldc 177, 2) := by decide +kernel
theorem sm_X10_177 : (RX10, 177, "holds", 1020) ∈ zSR := by decide +kernel
theorem dX10_wordOfPart_69 : decode cX10_wordOfPart 69 = .ok (.invokevirtual 117, 3) := by decide +kernel
theorem dX10_wordOfPart_72 : decode cX10_wordOfPart 72 = .ok (.ifCond .eq 8, 3) := by decide +kernel
theorem dX10_wordOfPart_80 : decode cX10_wordOfPart 80 = .ok (.iconst (-1), 1) := by decide +kernel
theorem dX10_wordOfPart_81 : decode cX10_wordOfPart 81 = .ok (.ireturn, 1) := by decide +kernel
theorem dX10_wordOfPart_75 : decode cX10_wordOfPart 75 = .ok (.bipush 6, 2) := by decide +kernel
theorem dX10_wordOfPart_77 : decode cX10_wordOfPart 77 = .ok (.goto 4, 3) := by decide +kernel
theorem dX10_readPart_0 : decode cX10_readPart 0 = .ok (.aload_n 0, 1) := by decide +kernel
theorem dX10_readPart_1 : decode cX10_readPart 1 = .ok (.invokevirtual 114, 3) := by decide +kernel
theorem dX10_readPart_4 : decode cX10_readPart 4 = .ok (.aload_n 0, 1) := by decide +kernel
theorem dX10_readPart_5 : decode cX10_readPart 5 = .ok (.getfield 89, 3) := by decide +kernel
theorem dX10_readPart_8 : decode cX10_readPart 8 = .ok (.aload_n 0, 1) := by decide +kernel
theorem dX10_readPart_9 : decode cX10_readPart 9 = .ok (.getfield 99, 3) := by decide +kernel
theorem dX10_readPart_12 : decode cX10_readPart 12 = .ok (.if_icmp .ne 7, 3) := by decide +kernel
theorem dX10_readPart_19 : decode cX10_readPart 19 = .ok (.iconst 0, 1) := by decide +kernel
theorem dX10_readPart_20 : decode cX10_readPart 20 = .ok (.istore_n 1, 1) := by decide +kernel
theorem dX10_readPart_21 : decode cX10_readPart 21 = .ok (.iload_n 1, 1) := by decide +kernel
theorem dX10_readPart_22 : decode cX10_readPart 22 = .ok (.ifCond .eq 14, 3) := by decide +kernel
theorem dX10_readPart_36 : decode cX10_readPart 36 = .ok (.aload_n 0, 1) := by decide +kernel
theorem dX10_readPart_37 : decode cX10_readPart 37 = .ok (.invokevirtual 179, 3) := by decide +kernel
theorem dX10_readPart_40 : decode cX10_readPart 40 = .ok (.istore_n 2, 1) := by decide +kernel
theorem dX10_readPart_41 : decode cX10_readPart 41 = .ok (.aload_n 0, 1) := by decide +kernel
theorem dX10_readPart_42 : decode cX10_readPart 42 = .ok (.iload_n 1, 1) := by decide +kernel
theorem dX10_readPart_43 : decode cX10_readPart 43 = .ok (.ifCond .eq 8, 3) := by decide +kernel
theorem dX10_readPart_51 : decode cX10_readPart 51 = .ok (.iload_n 2, 1) := by decide +kernel
theorem dX10_readPart_52 : decode cX10_readPart 52 = .ok (.iload_n 1, 1) := by decide +kernel
theorem dX10_readPart_53 : decode cX10_readPart 53 = .ok (.ifCond .eq 7, 3) := by decide +kernel
theorem dX10_readPart_60 : decode cX10_readPart 60 = .ok (.iconst 0, 1) := by decide +kernel
theorem dX10_readPart_61 : decode cX10_readPart 61 = .ok (.invokevirtual 182, 3) := by decide +kernel
theorem dX10_readPart_64 : decode cX10_readPart 64 = .ok (.iload_n 2, 1) := by decide +kernel
theorem dX10_readPart_65 : decode cX10_readPart 65 = .ok (.ifCond .lt 7, 3) := by decide +kernel
theorem dX10_readPart_72 : decode cX10_readPart 72 = .ok (.iconst 0, 1) := by decide +kernel
theorem dX10_readPart_73 : decode cX10_readPart 73 = .ok (.ireturn, 1) := by decide +kernel
theorem dX10_readPart_68 : decode cX10_readPart 68 = .ok (.iconst 1, 1) := by decide +kernel
theorem dX10_readPart_69 : decode cX10_readPart 69 = .ok (.goto 4, 3) := by decide +kernel
theorem dX10_readPart_15 : decode cX10_readPart 15 = .ok (.iconst 1, 1) := by decide +kernel
theorem dX10_readPart_16 : decode cX10_readPart 16 = .ok (.goto 4, 3) := by decide +kernel
theorem dX10_readPart_25 : decode cX10_readPart 25 = .ok (.aload_n 0, 1) := by decide +kernel
theorem dX10_readPart_26 : decode cX10_readPart 26 = .ok (.iconst 0, 1) := by decide +kernel
theorem dX10_readPart_27 : decode cX10_readPart 27 = .ok (.sipush 999, 3) := by decide +kernel
theorem dX10_readPart_30 : decode cX10_readPart 30 = .ok (.invokevirtual 121, 3) := by decide +kernel
theorem dX10_readPart_33 : decode cX10_readPart 33 = .ok (.goto 7, 3) := by decide +kernel
theorem dX10_readPart_46 : decode cX10_readPart 46 = .ok (.bipush 10, 2) := by decide +kernel
theorem dX10_readPart_48 : decode cX10_readPart 48 = .ok (.goto 4, 3) := by decide +kernel
theorem dX10_readPart_56 : decode cX10_readPart 56 = .ok (.iload_n 2, 1) := by decide +kernel
theorem dX10_readPart_57 : decode cX10_readPart 57 = .ok (.goto 4, 3) := by decide +kernel
/-! the reference's reader: the law's conditions, and the steps that they are written as -/
def PA (A : Nat → Int32) (p b q s : Nat) : Nat → Int32 := fun j => if j = 10 then nI p else if j = 12 then nI b else if j = 13 then nI q else if j = 16 then nI s else A j
def PS (I : Hi) (p b q s : Nat) (V : Nat → Int32) : Hi := zset (zset I 94 (PA (I 94) p b q s)) 95 V
theorem zup_set2 (I : Hi) (A V : Nat → Int32) (j : Nat) (v : Int32) : zup (zset (zset I 94 A) 95 V) 94 j v = zset (zset I 94 (upd A j v)) 95 V := by
  funext k
  simp only [zup, zset]
  by_cases e : k = 94
  · subst e; rfl
  · rw [if_neg e]
    by_cases e2 : k = 95
    · rw [if_pos e2, if_pos e2]
    · rw [if_neg e2, if_neg e2, if_neg e, if_neg e]
theorem PA_10 (A : Nat → Int32) (p b q s x : Nat) : upd (PA A p b q s) 10 (nI x) = PA A x b q s := by
  funext j
  simp only [upd, PA]
  by_cases e : j = 10
  · rw [if_pos e, if_pos e]
  · rw [if_neg e, if_neg e, if_neg e]
theorem PA_12 (A : Nat → Int32) (p b q s x : Nat) : upd (PA A p b q s) 12 (nI x) = PA A p x q s := by
  funext j
  simp only [upd, PA]
  by_cases e : j = 12
  · subst e; rfl
  · rw [if_neg e, if_neg e, if_neg e]
theorem PA_13 (A : Nat → Int32) (p b q s x : Nat) : upd (PA A p b q s) 13 (nI x) = PA A p b x s := by
  funext j
  simp only [upd, PA]
  by_cases e : j = 13
  · subst e; rfl
  · rw [if_neg e, if_neg e, if_neg e]
theorem PA_16 (A : Nat → Int32) (p b q s x : Nat) : upd (PA A p b q s) 16 (nI x) = PA A p b q x := by
  funext j
  simp only [upd, PA]
  by_cases e : j = 16
  · subst e; rfl
  · rw [if_neg e, if_neg e, if_neg e]
theorem PS_10 (I : Hi) (p b q s x : Nat) (V : Nat → Int32) : zup (PS I p b q s V) 94 10 (nI x) = PS I x b q s V := by rw [PS, zup_set2, PA_10]; rfl
theorem PS_12 (I : Hi) (p b q s x : Nat) (V : Nat → Int32) : zup (PS I p b q s V) 94 12 (nI x) = PS I p x q s V := by rw [PS, zup_set2, PA_12]; rfl
theorem PS_13 (I : Hi) (p b q s x : Nat) (V : Nat → Int32) : zup (PS I p b q s V) 94 13 (nI x) = PS I p b x s V := by rw [PS, zup_set2, PA_13]; rfl
theorem PS_16 (I : Hi) (p b q s x : Nat) (V : Nat → Int32) : zup (PS I p b q s V) 94 16 (nI x) = PS I p b q x V := by rw [PS, zup_set2, PA_16]; rfl
theorem PS_95 (I : Hi) (p b q s j : Nat) (x : Int32) (V : Nat → Int32) : zup (PS I p b q s V) 95 j x = PS I p b q s (upd V j x) := by rw [PS, zup_zset]; rfl
theorem PS_PB (I : Hi) (p b q s x y : Nat) (V : Nat → Int32) : PB (PS I p b q s V) x y = PS I x y q s V := by
  show zup (zup (PS I p b q s V) 94 10 (nI x)) 94 12 (nI y) = _
  rw [PS_10, PS_12]
/-! steps: from a height to a height -/
def sgS (op : Nat → Nat) : Nat → Nat → Nat → Nat → Prop
  | 0, _, h, h' => h = h'
  | n + 1, i, h, h' => (op i ≤ 10 ∧ h < 400 ∧ sgS op n (i + 1) (h + 1) h') ∨ (op i = 14 ∧ 1 ≤ h ∧ sgS op n (i + 1) h h') ∨ ((op i = 11 ∨ op i = 12 ∨ op i = 13 ∨ op i = 15 ∨ op i = 16) ∧ 2 ≤ h ∧ sgS op n (i + 1) (h - 1) h')
theorem sgS.ok {op : Nat → Nat} : ∀ {n i h h' : Nat}, sgS op n i h h' → okS op n i h := by
  intro n
  induction n with
  | zero => intro i h h' _; trivial
  | succ n ih =>
    intro i h h' q
    rcases q with ⟨a, b, c⟩ | ⟨a, b, c⟩ | ⟨a, b, c⟩
    · exact Or.inl ⟨a, b, ih c⟩
    · exact Or.inr (Or.inl ⟨a, b, ih c⟩)
    · exact Or.inr (Or.inr ⟨a, b, ih c⟩)
theorem sgS.app {op : Nat → Nat} {m h1 h2 : Nat} : ∀ {n i h : Nat}, sgS op n i h h1 → sgS op m (i + n) h1 h2 → sgS op (n + m) i h h2 := by
  intro n
  induction n with
  | zero =>
    intro i h q r
    have q : h = h1 := q
    subst q
    rw [Nat.zero_add]
    exact r
  | succ n ih =>
    intro i h q r
    rw [show i + (n + 1) = i + 1 + n by omega] at r
    rw [show n + 1 + m = (n + m) + 1 by omega]
    rcases q with ⟨a, b, c⟩ | ⟨a, b, c⟩ | ⟨a, b, c⟩
    · exact Or.inl ⟨a, b, ih c r⟩
    · exact Or.inr (Or.inl ⟨a, b, ih c r⟩)
    · exact Or.inr (Or.inr ⟨a, b, ih c r⟩)
theorem sgS.congr {op op' : Nat → Nat} {h' : Nat} : ∀ {n i h : Nat}, (∀ k, i ≤ k → k < i + n → op' k = op k) → sgS op n i h h' → sgS op' n i h h' := by
  intro n
  induction n with
  | zero => intro i h _ q; exact q
  | succ n ih =>
    intro i h e q
    have e0 := e i (Nat.le_refl _) (by omega)
    have e1 : ∀ k, i + 1 ≤ k → k < i + 1 + n → op' k = op k := fun k a b => e k (by omega) (by omega)
    unfold sgS
    rw [e0]
    rcases q with ⟨a, b, c⟩ | ⟨a, b, c⟩ | ⟨a, b, c⟩
    · exact Or.inl ⟨a, b, ih e1 c⟩
    · exact Or.inr (Or.inl ⟨a, b, ih e1 c⟩)
    · exact Or.inr (Or.inr ⟨a, b, ih e1 c⟩)
def opV (V : Nat → Int32) (i : Nat) : Nat := (V (1275 + 2 * i)).toInt.toNat
theorem opV_at {V : Nat → Int32} {i k : Nat} (hk : k < 1000) (h : V (1275 + 2 * i) = nI k) : opV V i = k := by
  unfold opV
  rw [h, nI_toInt (by omega)]
  exact Int.toNat_natCast k
/-- the steps s .. s' leave one value more -/
def seg (V : Nat → Int32) (s s' : Nat) : Prop := s < s' ∧ (∀ i, s ≤ i → i < s' → V (1275 + 2 * i) = nI (opV V i)) ∧ ∀ h, h + (s' - s) ≤ 400 → sgS (opV V) (s' - s) s h (h + 1)
theorem seg.of {V V' : Nat → Int32} {s s' : Nat} (h : seg V s s') (e : ∀ j, j < 1275 + 2 * s' → V' j = V j) : seg V' s s' := by
  obtain ⟨h1, h2, h3⟩ := h
  have eo : ∀ i, i < s' → opV V' i = opV V i := fun i hi => by unfold opV; rw [e _ (by omega)]
  exact ⟨h1, fun i a b => by rw [e _ (by omega), eo i b]; exact h2 i a b, fun h q => sgS.congr (fun k a b => eo k (by omega)) (h3 h q)⟩
theorem seg.push {V : Nat → Int32} {s k : Nat} (hk : k ≤ 10) (h : V (1275 + 2 * s) = nI k) : seg V s (s + 1) := by
  have ho := opV_at (by omega) h
  refine ⟨by omega, fun i a b => ?_, fun z q => ?_⟩
  · obtain rfl : i = s := by omega
    rw [ho]; exact h
  · rw [show s + 1 - s = 0 + 1 by omega]
    exact Or.inl ⟨by rw [ho]; exact hk, by omega, rfl⟩
theorem seg.bin {V : Nat → Int32} {s s1 s2 k : Nat} (h1 : seg V s s1) (h2 : seg V s1 s2) (hk : k = 11 ∨ k = 12 ∨ k = 13 ∨ k = 15 ∨ k = 16) (h : V (1275 + 2 * s2) = nI k) : seg V s (s2 + 1) := by
  have ho := opV_at (by omega) h
  obtain ⟨a1, a2, a3⟩ := h1
  obtain ⟨b1, b2, b3⟩ := h2
  refine ⟨by omega, fun i a b => ?_, fun z q => ?_⟩
  · by_cases e1 : i < s1
    · exact a2 i a e1
    · by_cases e2 : i < s2
      · exact b2 i (by omega) e2
      · obtain rfl : i = s2 := by omega
        rw [ho]; exact h
  · have x1 := a3 z (by omega)
    have x2 := b3 (z + 1) (by omega)
    rw [show s1 = s + (s1 - s) by omega] at x2
    have x2 : sgS (opV V) (s2 - (s + (s1 - s))) (s + (s1 - s)) (z + 1) (z + 1 + 1) := x2
    have x3 := x1.app x2
    have x4 : sgS (opV V) 1 (s + (s1 - s + (s2 - (s + (s1 - s))))) (z + 1 + 1) (z + 1) := by
      rw [show s + (s1 - s + (s2 - (s + (s1 - s)))) = s2 by omega]
      refine Or.inr (Or.inr ⟨by rw [ho]; exact hk, by omega, ?_⟩)
      show z + 1 + 1 - 1 = z + 1
      omega
    have x5 := x3.app x4
    rw [show s1 - s + (s2 - (s + (s1 - s))) + 1 = s2 + 1 - s by omega] at x5
    exact x5
theorem seg.neg {V : Nat → Int32} {s s1 : Nat} (h1 : seg V s s1) (h : V (1275 + 2 * s1) = nI 14) : seg V s (s1 + 1) := by
  have ho := opV_at (by omega) h
  obtain ⟨a1, a2, a3⟩ := h1
  refine ⟨by omega, fun i a b => ?_, fun z q => ?_⟩
  · by_cases e1 : i < s1
    · exact a2 i a e1
    · obtain rfl : i = s1 := by omega
      rw [ho]; exact h
  · have x1 := a3 z (by omega)
    have x4 : sgS (opV V) 1 (s + (s1 - s)) (z + 1) (z + 1) := by
      rw [show s + (s1 - s) = s1 by omega]
      exact Or.inr (Or.inl ⟨ho, by omega, rfl⟩)
    have x5 := x1.app x4
    rw [show s1 - s + 1 = s1 + 1 - s by omega] at x5
    exact x5
/-- what a reader of a condition leaves: 0 where it can't be read (o: where), 1 and the steps s .. s' where it can (o: where it goes on) -/
def PO (c : Nat → Nat) (e : Nat) (I : Hi) (p q s : Nat) (V : Nat → Int32) (o : Go) (v : Option Value) (J : Hi) : Prop := ∃ (p' b' q' s' : Nat) (V' : Nat → Int32), J = PS I p' b' q' s' V' ∧ p ≤ p' ∧ p' ≤ e ∧ b' ≤ e ∧ q' ≤ 6 ∧ s ≤ s' ∧ s' ≤ 400 ∧ (∀ j, j < 1275 + 2 * s → V' j = V j) ∧ ((v = some (.int (nI 0)) ∧ o = .inl b') ∨ (v = some (.int (nI 1)) ∧ q' = q ∧ s' + p ≤ s + p' ∧ seg V' s s' ∧ o = .inr (bl c e p')))
def RdC (G : Gx) (c : Nat → Nat) (e : Nat) (y : Ym) (dd q : Nat) (g : Nat → Go) : Prop := ∀ (I : Hi) (p b s : Nat) (V : Nat → Int32) (q0 : Nat), TY I c e → p ≤ e → b ≤ e → s + 4 ≤ p → bl c e p = q0 → Ct G GAM y dd 0 [.ref 94] (PS I p b q s V) (Rv (PO c e I p q s V (g q0)))
theorem TY.ps {I : Hi} {c : Nat → Nat} {e p b q s : Nat} {V : Nat → Int32} (h : TY I c e) : TY (PS I p b q s V) c e := ⟨h.1, h.2.1, h.2.2⟩
def emV (V : Nat → Int32) (s : Nat) (x y : Int32) : Nat → Int32 := upd (upd V (1275 + 2 * s) x) (1276 + 2 * s) y
theorem emV_at (V : Nat → Int32) (s : Nat) (x y : Int32) : emV V s x y (1275 + 2 * s) = x := by
  unfold emV
  rw [upd_ne _ _ (by omega), upd_at]
theorem emV_lt {V : Nat → Int32} {s j : Nat} {x y : Int32} (h : j < 1275 + 2 * s) : emV V s x y j = V j := by
  unfold emV
  rw [upd_ne _ _ (by omega), upd_ne _ _ (by omega)]
theorem w_two {i p b : Nat} (hi : i < 23) (h : p = b + zsLen.getD i 0) : b + 2 ≤ p := by
  have h2 : 2 ≤ zsLen.getD i 0 := (zsLen_b ⟨i, hi⟩).1
  omega
theorem hz_0 : hz 0 = 24622126 := by decide +kernel
theorem hz_1 : hz 1 = 17484389 := by decide +kernel
theorem hz_2 : hz 2 = 23716 := by decide +kernel
theorem hz_3 : hz 3 = 24416759 := by decide +kernel
theorem hz_4 : hz 4 = 21243335 := by decide +kernel
theorem hz_5 : hz 5 = 486 := by decide +kernel
theorem hz_6 : hz 6 = 769614 := by decide +kernel
theorem hz_7 : hz 7 = 763528 := by decide +kernel
theorem hz_8 : hz 8 = 78501 := by decide +kernel
theorem hz_9 : hz 9 = 17376357 := by decide +kernel
theorem hz_10 : hz 10 = 409285 := by decide +kernel
theorem hz_11 : hz 11 = 4153 := by decide +kernel
theorem hz_12 : hz 12 = 209399 := by decide +kernel
theorem hz_13 : hz 13 = 758834 := by decide +kernel
theorem hz_14 : hz 14 = 20587627 := by decide +kernel
theorem hz_15 : hz 15 = 294 := by decide +kernel
theorem hz_16 : hz 16 = 14836 := by decide +kernel
theorem hz_17 : hz 17 = 16110 := by decide +kernel
theorem hz_18 : hz 18 = 638548 := by decide +kernel
theorem hz_19 : hz 19 = 8243 := by decide +kernel
theorem hz_20 : hz 20 = 8892563 := by decide +kernel
theorem hz_21 : hz 21 = 1476 := by decide +kernel
theorem hz_22 : hz 22 = 498 := by decide +kernel
theorem tn_999 (c : Nat → Nat) (e q : Nat) : ¬ nI 999 < tn c e q := by
  intro z
  by_cases h : tn c e q = -1
  · rw [h] at z; exact absurd z (by decide)
  · obtain ⟨h1, h2, h3, h4⟩ := tn_d h
    have hb := nv_b (c := c) (q := q) (k := dx c e q - q) (fun i a b => rn_all (e := e) (p := q) a (by show i < dx c e q; omega)) (by omega)
    rw [h4] at z
    have z := Int32.lt_iff_toInt_lt.mp z
    rw [nI_toInt (by omega), nI_toInt (by omega)] at z
    omega
section Par
variable (G : Gx) (d : Nat) (I : Hi) {c : Nat → Nat} {e : Nat}
theorem ct_emits (x y : Int32) (p b q s : Nat) (V : Nat → Int32) (hs : s < 400) : Ct G GAM mX10_emits d 0 [.ref 94, .int x, .int y] (PS I p b q s V) (Rp none (PS I p b q (s + 1) (emV V s x y))) := by
  refine Ct.mk [some (.ref 94), some (.int x), some (.int y)] ?_
  refine Rn.aload_n dX10_emits_0 rfl rfl ?_
  refine Rn.getR dX10_emits_1 fd_X10_13_9 (by first | rfl | exact gC0 (by assumption) | exact gL0 (by assumption)) rfl ?_
  refine Rn.sipush (v := (nI 1275)) dX10_emits_4 rfl ?_
  refine Rn.iconst (v := (nI 2)) dX10_emits_7 rfl ?_
  refine Rn.aload_n dX10_emits_8 rfl rfl ?_
  refine Rn.getI dX10_emits_9 fd_X10_168_9 (by first | rfl | exact gC0 (by assumption) | exact gL0 (by assumption)) rfl ?_
  refine Rn.topI (nI s) (by rfl) ?_
  refine Rn.imul dX10_emits_12 ?_
  refine Rn.iadd dX10_emits_13 ?_
  refine Rn.iload_n dX10_emits_14 rfl rfl ?_
  refine Rn.secI (nI (1275 + 2 * s)) (by first | rfl | (simp only [nI_add, pk_mul, nI_1]; done) | (simp only [nI_add, pk_mul, nI_1]; congr 1; omega)) ?_
  refine Rn.iastN dX10_emits_15 (by first | rfl | exact gC1 (by assumption) | exact gC2 (by assumption) | exact gC3 (by assumption) | exact gL1 (by assumption) | exact gL2 (by assumption) | exact gL3 (by assumption) | exact gL4 (by assumption) | exact gL5 (by assumption) | exact gL6 (by assumption)) ?_
  refine Rn.aload_n dX10_emits_16 rfl rfl ?_
  refine Rn.getR dX10_emits_17 fd_X10_13_9 (by first | rfl | exact gC0 (by assumption) | exact gL0 (by assumption)) rfl ?_
  refine Rn.sipush (v := (nI 1275)) dX10_emits_20 rfl ?_
  refine Rn.iconst (v := (nI 2)) dX10_emits_23 rfl ?_
  refine Rn.aload_n dX10_emits_24 rfl rfl ?_
  refine Rn.getI dX10_emits_25 fd_X10_168_9 (by first | rfl | exact gC0 (by assumption) | exact gL0 (by assumption)) rfl ?_
  refine Rn.topI (nI s) (by rfl) ?_
  refine Rn.imul dX10_emits_28 ?_
  refine Rn.iadd dX10_emits_29 ?_
  refine Rn.iconst (v := (nI 1)) dX10_emits_30 rfl ?_
  refine Rn.iadd dX10_emits_31 ?_
  refine Rn.iload_n dX10_emits_32 rfl rfl ?_
  refine Rn.secI (nI (1276 + 2 * s)) (by first | rfl | (simp only [nI_add, pk_mul, nI_1]; done) | (simp only [nI_add, pk_mul, nI_1]; congr 1; omega)) ?_
  refine Rn.iastN dX10_emits_33 (by first | rfl | exact gC1 (by assumption) | exact gC2 (by assumption) | exact gC3 (by assumption) | exact gL1 (by assumption) | exact gL2 (by assumption) | exact gL3 (by assumption) | exact gL4 (by assumption) | exact gL5 (by assumption) | exact gL6 (by assumption)) ?_
  refine Rn.aload_n dX10_emits_34 rfl rfl ?_
  refine Rn.dup dX10_emits_35 rfl ?_
  refine Rn.getI dX10_emits_36 fd_X10_168_9 (by first | rfl | exact gC0 (by assumption) | exact gL0 (by assumption)) rfl ?_
  refine Rn.topI (nI s) (by rfl) ?_
  refine Rn.iconst (v := (nI 1)) dX10_emits_39 rfl ?_
  refine Rn.iadd dX10_emits_40 ?_
  refine Rn.topI (nI (s + 1)) (by exact nI_1 s) ?_
  refine Rn.putI dX10_emits_41 fp_X10_168_9 (by first | rfl | exact gC0 (by assumption) | exact gL0 (by assumption)) rfl ?_
  exact Rn.vret dX10_emits_44 rfl (⟨rfl, by rw [PS_95, PS_95, PS_16]; rfl⟩)
theorem ct_wordOfPart (b : Nat) (hT : TY I c e) (hb : b ≤ e) (h10 : I 94 10 = nI (lx c e b)) (h12 : I 94 12 = nI b) : Ct G GAM mX10_wordOfPart (d + 5) 0 [.ref 94] I (Rv (fun v J => J = I ∧ ((v = some (.int (-1)) ∧ ¬ isPart (wv c e b)) ∨ ∃ k, k ≤ 6 ∧ v = some (.int (nI k)) ∧ b + 2 ≤ lx c e b ∧ isPart (wv c e b)))) := by
  refine Ct.mk [some (.ref 94)] ?_
  refine Rn.aload_n dX10_wordOfPart_0 rfl rfl ?_
  refine Rn.ldcS dX10_wordOfPart_1 sm_X10_151 ?_
  refine Rn.callV (As := [_]) dX10_wordOfPart_3 mv_X10_117 (by first | rfl | exact gC0 (by assumption) | exact gL0 (by assumption)) rfl rfl rfl (Nat.le_of_ble_eq_true rfl) (cx_isWord G d _ 0 b (by decide) hT hb h10 h12) (fun _ _ h => h) (fun v J h => ?_)
  obtain ⟨e9, ⟨n0, rfl⟩ | ⟨h4, rfl, h5⟩⟩ := h
  rotate_left
  · cases e9
    refine Rn.if_eq (tgt := 11) dX10_wordOfPart_6 (by decide) (fun h9 => absurd h9 (by decide)) (fun _ => ?_)
    refine Rn.iconst (v := (nI 0)) dX10_wordOfPart_9 rfl ?_
    exact Rn.iret dX10_wordOfPart_10 rfl (⟨rfl, Or.inr ⟨0, by decide, rfl, w_two (by decide) h5, by rw [h4]; decide +kernel⟩⟩)
  cases e9
  refine Rn.if_eq (tgt := 11) dX10_wordOfPart_6 (by decide) (fun _ => ?_) (fun h9 => absurd h9 (by decide))
  refine Rn.aload_n dX10_wordOfPart_11 rfl rfl ?_
  refine Rn.ldcS dX10_wordOfPart_12 sm_X10_157 ?_
  refine Rn.callV (As := [_]) dX10_wordOfPart_14 mv_X10_117 (by first | rfl | exact gC0 (by assumption) | exact gL0 (by assumption)) rfl rfl rfl (Nat.le_of_ble_eq_true rfl) (cx_isWord G d _ 4 b (by decide) hT hb h10 h12) (fun _ _ h => h) (fun v J h => ?_)
  obtain ⟨e9, ⟨n1, rfl⟩ | ⟨h4, rfl, h5⟩⟩ := h
  rotate_left
  · cases e9
    refine Rn.if_eq (tgt := 22) dX10_wordOfPart_17 (by decide) (fun h9 => absurd h9 (by decide)) (fun _ => ?_)
    refine Rn.iconst (v := (nI 1)) dX10_wordOfPart_20 rfl ?_
    exact Rn.iret dX10_wordOfPart_21 rfl (⟨rfl, Or.inr ⟨1, by decide, rfl, w_two (by decide) h5, by rw [h4]; decide +kernel⟩⟩)
  cases e9
  refine Rn.if_eq (tgt := 22) dX10_wordOfPart_17 (by decide) (fun _ => ?_) (fun h9 => absurd h9 (by decide))
  refine Rn.aload_n dX10_wordOfPart_22 rfl rfl ?_
  refine Rn.ldcS dX10_wordOfPart_23 sm_X10_171 ?_
  refine Rn.callV (As := [_]) dX10_wordOfPart_25 mv_X10_117 (by first | rfl | exact gC0 (by assumption) | exact gL0 (by assumption)) rfl rfl rfl (Nat.le_of_ble_eq_true rfl) (cx_isWord G d _ 18 b (by decide) hT hb h10 h12) (fun _ _ h => h) (fun v J h => ?_)
  obtain ⟨e9, ⟨n2, rfl⟩ | ⟨h4, rfl, h5⟩⟩ := h
  rotate_left
  · cases e9
    refine Rn.if_eq (tgt := 33) dX10_wordOfPart_28 (by decide) (fun h9 => absurd h9 (by decide)) (fun _ => ?_)
    refine Rn.iconst (v := (nI 2)) dX10_wordOfPart_31 rfl ?_
    exact Rn.iret dX10_wordOfPart_32 rfl (⟨rfl, Or.inr ⟨2, by decide, rfl, w_two (by decide) h5, by rw [h4]; decide +kernel⟩⟩)
  cases e9
  refine Rn.if_eq (tgt := 33) dX10_wordOfPart_28 (by decide) (fun _ => ?_) (fun h9 => absurd h9 (by decide))
  refine Rn.aload_n dX10_wordOfPart_33 rfl rfl ?_
  refine Rn.ldcS dX10_wordOfPart_34 sm_X10_173 ?_
  refine Rn.callV (As := [_]) dX10_wordOfPart_36 mv_X10_117 (by first | rfl | exact gC0 (by assumption) | exact gL0 (by assumption)) rfl rfl rfl (Nat.le_of_ble_eq_true rfl) (cx_isWord G d _ 13 b (by decide) hT hb h10 h12) (fun _ _ h => h) (fun v J h => ?_)
  obtain ⟨e9, ⟨n3, rfl⟩ | ⟨h4, rfl, h5⟩⟩ := h
  rotate_left
  · cases e9
    refine Rn.if_eq (tgt := 44) dX10_wordOfPart_39 (by decide) (fun h9 => absurd h9 (by decide)) (fun _ => ?_)
    refine Rn.iconst (v := (nI 3)) dX10_wordOfPart_42 rfl ?_
    exact Rn.iret dX10_wordOfPart_43 rfl (⟨rfl, Or.inr ⟨3, by decide, rfl, w_two (by decide) h5, by rw [h4]; decide +kernel⟩⟩)
  cases e9
  refine Rn.if_eq (tgt := 44) dX10_wordOfPart_39 (by decide) (fun _ => ?_) (fun h9 => absurd h9 (by decide))
  refine Rn.aload_n dX10_wordOfPart_44 rfl rfl ?_
  refine Rn.ldcS dX10_wordOfPart_45 sm_X10_137 ?_
  refine Rn.callV (As := [_]) dX10_wordOfPart_47 mv_X10_117 (by first | rfl | exact gC0 (by assumption) | exact gL0 (by assumption)) rfl rfl rfl (Nat.le_of_ble_eq_true rfl) (cx_isWord G d _ 2 b (by decide) hT hb h10 h12) (fun _ _ h => h) (fun v J h => ?_)
  obtain ⟨e9, ⟨n4, rfl⟩ | ⟨h4, rfl, h5⟩⟩ := h
  rotate_left
  · cases e9
    refine Rn.if_eq (tgt := 55) dX10_wordOfPart_50 (by decide) (fun h9 => absurd h9 (by decide)) (fun _ => ?_)
    refine Rn.iconst (v := (nI 4)) dX10_wordOfPart_53 rfl ?_
    exact Rn.iret dX10_wordOfPart_54 rfl (⟨rfl, Or.inr ⟨4, by decide, rfl, w_two (by decide) h5, by rw [h4]; decide +kernel⟩⟩)
  cases e9
  refine Rn.if_eq (tgt := 55) dX10_wordOfPart_50 (by decide) (fun _ => ?_) (fun h9 => absurd h9 (by decide))
  refine Rn.aload_n dX10_wordOfPart_55 rfl rfl ?_
  refine Rn.ldcS dX10_wordOfPart_56 sm_X10_175 ?_
  refine Rn.callV (As := [_]) dX10_wordOfPart_58 mv_X10_117 (by first | rfl | exact gC0 (by assumption) | exact gL0 (by assumption)) rfl rfl rfl (Nat.le_of_ble_eq_true rfl) (cx_isWord G d _ 19 b (by decide) hT hb h10 h12) (fun _ _ h => h) (fun v J h => ?_)
  obtain ⟨e9, ⟨n5, rfl⟩ | ⟨h4, rfl, h5⟩⟩ := h
  rotate_left
  · cases e9
    refine Rn.if_eq (tgt := 66) dX10_wordOfPart_61 (by decide) (fun h9 => absurd h9 (by decide)) (fun _ => ?_)
    refine Rn.iconst (v := (nI 5)) dX10_wordOfPart_64 rfl ?_
    exact Rn.iret dX10_wordOfPart_65 rfl (⟨rfl, Or.inr ⟨5, by decide, rfl, w_two (by decide) h5, by rw [h4]; decide +kernel⟩⟩)
  cases e9
  refine Rn.if_eq (tgt := 66) dX10_wordOfPart_61 (by decide) (fun _ => ?_) (fun h9 => absurd h9 (by decide))
  refine Rn.aload_n dX10_wordOfPart_66 rfl rfl ?_
  refine Rn.ldcS dX10_wordOfPart_67 sm_X10_177 ?_
  refine Rn.callV (As := [_]) dX10_wordOfPart_69 mv_X10_117 (by first | rfl | exact gC0 (by assumption) | exact gL0 (by assumption)) rfl rfl rfl (Nat.le_of_ble_eq_true rfl) (cx_isWord G d _ 20 b (by decide) hT hb h10 h12) (fun _ _ h => h) (fun v J h => ?_)
  obtain ⟨e9, ⟨n6, rfl⟩ | ⟨h4, rfl, h5⟩⟩ := h
  · cases e9
    have hn : ¬ isPart (wv c e b) := fun z => by
      rcases z with z | z | z | z | z | z | z
      · exact n5 (z.trans hz_19.symm)
      · exact n4 (z.trans hz_2.symm)
      · exact n2 (z.trans hz_18.symm)
      · exact n3 (z.trans hz_13.symm)
      · exact n6 (z.trans hz_20.symm)
      · exact n1 (z.trans hz_4.symm)
      · exact n0 (z.trans hz_0.symm)
    refine Rn.if_eq (tgt := 80) dX10_wordOfPart_72 (by decide) (fun _ => ?_) (fun h9 => absurd h9 (by decide))
    refine Rn.iconst (v := (-1)) dX10_wordOfPart_80 rfl ?_
    exact Rn.iret dX10_wordOfPart_81 rfl (⟨rfl, Or.inl ⟨rfl, hn⟩⟩)
  · cases e9
    refine Rn.if_eq (tgt := 80) dX10_wordOfPart_72 (by decide) (fun h9 => absurd h9 (by decide)) (fun _ => ?_)
    refine Rn.bipush (v := (nI 6)) dX10_wordOfPart_75 rfl ?_
    refine Rn.goto 81 dX10_wordOfPart_77 (by decide) ?_
    exact Rn.iret dX10_wordOfPart_81 rfl (⟨rfl, Or.inr ⟨6, by decide, rfl, w_two (by decide) h5, by rw [h4]; decide +kernel⟩⟩)
theorem rd_part (q : Nat) (hq : q ≤ 6) : RdC G c e mX10_readPart (d + 6) q (gPart c e) := by
  intro I p b s V q0 hT hp hb hs h0
  have he := hT.1
  refine Ct.mk [some (.ref 94), none, none] ?_
  refine Rn.aload_n dX10_readPart_0 rfl rfl ?_
  refine Rn.callV (As := []) dX10_readPart_1 mv_X10_114 (by first | rfl | exact gC0 (by assumption) | exact gL0 (by assumption)) rfl rfl rfl (Nat.le_of_ble_eq_true rfl) (cx_letters G (d + 3) (PS I p b q s V) p hT.ps hp (by rfl)) (fun _ _ h => h) (fun v J h => ?_)
  obtain ⟨rfl, p1, b1, q1, q2, q3, rfl, hb1, hp1⟩ := h
  rw [h0] at hb1
  subst hb1
  refine Rn.hpp _ (PS_PB _ _ _ _ _ _ _ _) ?_
  refine Rn.aload_n dX10_readPart_4 rfl rfl ?_
  refine Rn.getI dX10_readPart_5 fd_X10_89_9 (by first | rfl | exact gC0 (by assumption) | exact gL0 (by assumption)) rfl ?_
  refine Rn.topI (nI p1) (by rfl) ?_
  refine Rn.aload_n dX10_readPart_8 rfl rfl ?_
  refine Rn.getI dX10_readPart_9 fd_X10_99_9 (by first | rfl | exact gC0 (by assumption) | exact gL0 (by assumption)) rfl ?_
  refine Rn.topI (nI b1) (by rfl) ?_
  refine Rn.icmp_neN dX10_readPart_12 19 (fun h1 => ?_) (fun h1 => ?_)
  · have ht : tn c e b1 = -1 := by rw [tn, if_neg (by omega)]
    refine Rn.iconst (v := (nI 0)) dX10_readPart_19 rfl ?_
    refine Rn.istore_n dX10_readPart_20 rfl (by decide) ?_
    refine Rn.iload_n dX10_readPart_21 rfl rfl ?_
    refine Rn.if_eq (tgt := 36) dX10_readPart_22 (by decide) (fun _ => ?_) (fun h9 => absurd h9 (by decide))
    refine Rn.aload_n dX10_readPart_36 rfl rfl ?_
    refine Rn.callV (As := []) dX10_readPart_37 mv_X10_179 (by first | rfl | exact gC0 (by assumption) | exact gL0 (by assumption)) rfl rfl rfl (Nat.le_of_ble_eq_true rfl) (ct_wordOfPart G d (PS I p1 b1 q s V) b1 hT.ps (by omega) (by rw [← hp1]; rfl) (by rfl)) (fun _ _ h => h) (fun v J h => ?_)
    obtain ⟨rfl, ⟨rfl, h4⟩ | ⟨k, hk, rfl, h4, h5⟩⟩ := h
    · refine Rn.istore_n dX10_readPart_40 rfl (by decide) ?_
      refine Rn.aload_n dX10_readPart_41 rfl rfl ?_
      refine Rn.iload_n dX10_readPart_42 rfl rfl ?_
      refine Rn.if_eq (tgt := 51) dX10_readPart_43 (by decide) (fun _ => ?_) (fun h9 => absurd h9 (by decide))
      refine Rn.iload_n dX10_readPart_51 rfl rfl ?_
      refine Rn.iload_n dX10_readPart_52 rfl rfl ?_
      refine Rn.if_eq (tgt := 60) dX10_readPart_53 (by decide) (fun _ => ?_) (fun h9 => absurd h9 (by decide))
      refine Rn.iconst (v := (nI 0)) dX10_readPart_60 rfl ?_
      refine Rn.callVp (As := [_, _]) dX10_readPart_61 mv_X10_182 (by first | rfl | exact gC0 (by assumption) | exact gL0 (by assumption)) rfl rfl rfl (Nat.le_of_ble_eq_true rfl) (ct_emits G _ I _ _ _ _ _ _ _ (by omega)) ?_
      refine Rn.iload_n dX10_readPart_64 rfl rfl ?_
      refine Rn.if_lt (tgt := 72) dX10_readPart_65 (by decide) (fun _ => ?_) (fun h9 => absurd h9 (by decide))
      refine Rn.iconst (v := (nI 0)) dX10_readPart_72 rfl ?_
      exact Rn.zret dX10_readPart_73 rfl rfl (⟨p1, b1, q, s + 1, _, rfl, by omega, q3, by omega, hq, by omega, by omega, fun j hj => emV_lt hj, Or.inl ⟨rfl, if_neg (fun z => z.elim h4 (fun y => y ht))⟩⟩)
    · refine Rn.istore_n dX10_readPart_40 rfl (by decide) ?_
      refine Rn.aload_n dX10_readPart_41 rfl rfl ?_
      refine Rn.iload_n dX10_readPart_42 rfl rfl ?_
      refine Rn.if_eq (tgt := 51) dX10_readPart_43 (by decide) (fun _ => ?_) (fun h9 => absurd h9 (by decide))
      refine Rn.iload_n dX10_readPart_51 rfl rfl ?_
      refine Rn.iload_n dX10_readPart_52 rfl rfl ?_
      refine Rn.if_eq (tgt := 60) dX10_readPart_53 (by decide) (fun _ => ?_) (fun h9 => absurd h9 (by decide))
      refine Rn.iconst (v := (nI 0)) dX10_readPart_60 rfl ?_
      refine Rn.callVp (As := [_, _]) dX10_readPart_61 mv_X10_182 (by first | rfl | exact gC0 (by assumption) | exact gL0 (by assumption)) rfl rfl rfl (Nat.le_of_ble_eq_true rfl) (ct_emits G _ I _ _ _ _ _ _ _ (by omega)) ?_
      refine Rn.iload_n dX10_readPart_64 rfl rfl ?_
      refine Rn.if_ltN dX10_readPart_65 ?_ 72
      refine Rn.iconst (v := (nI 1)) dX10_readPart_68 rfl ?_
      refine Rn.goto 73 dX10_readPart_69 (by decide) ?_
      exact Rn.zret dX10_readPart_73 rfl rfl (⟨p1, b1, q, s + 1, _, rfl, by omega, q3, by omega, hq, by omega, by omega, fun j hj => emV_lt hj, Or.inr ⟨rfl, rfl, by omega, seg.push (k := k) (by omega) (emV_at _ _ _ _), (if_pos (Or.inl h5)).trans (by rw [hp1, nx_w (by omega)])⟩⟩)
  · have hp2 : p1 = b1 := by omega
    have hw : wv c e b1 = 0 := by rw [wv, ← hp1, hp2, Nat.sub_self]; rfl
    have hw2 : ¬ isPart (wv c e b1) := by rw [hw]; decide
    refine Rn.iconst (v := (nI 1)) dX10_readPart_15 rfl ?_
    refine Rn.goto 20 dX10_readPart_16 (by decide) ?_
    refine Rn.istore_n dX10_readPart_20 rfl (by decide) ?_
    refine Rn.iload_n dX10_readPart_21 rfl rfl ?_
    refine Rn.if_eq (tgt := 36) dX10_readPart_22 (by decide) (fun h9 => absurd h9 (by decide)) (fun _ => ?_)
    refine Rn.aload_n dX10_readPart_25 rfl rfl ?_
    refine Rn.iconst (v := (nI 0)) dX10_readPart_26 rfl ?_
    refine Rn.sipush (v := (nI 999)) dX10_readPart_27 rfl ?_
    refine Rn.callV (As := [_, _]) dX10_readPart_30 mv_X10_121 (by first | rfl | exact gC0 (by assumption) | exact gL0 (by assumption)) rfl rfl rfl (Nat.le_of_ble_eq_true rfl) (cx_number G (d + 3) (PS I p1 b1 q s V) 999 p1 (by decide) hT.ps q3 (by rfl)) (fun _ _ h => h) (fun v J h => ?_)
    obtain ⟨p2, b2, q4, q5, q6, rfl, hb2, ⟨rfl, h5⟩ | ⟨x, rfl, h5, h6, h7, h8, h9, h10⟩⟩ := h
    · have hb3 : b2 = b1 := by rw [hb2, hp2, ← h0, bl_bl]
      have ht : tn c e b1 = -1 := by rw [← hb3]; exact h5.resolve_right (tn_999 c e b2)
      refine Rn.hpp _ (PS_PB _ _ _ _ _ _ _ _) ?_
      refine Rn.goto 40 dX10_readPart_33 (by decide) ?_
      refine Rn.istore_n dX10_readPart_40 rfl (by decide) ?_
      refine Rn.aload_n dX10_readPart_41 rfl rfl ?_
      refine Rn.iload_n dX10_readPart_42 rfl rfl ?_
      refine Rn.if_eq (tgt := 51) dX10_readPart_43 (by decide) (fun h9 => absurd h9 (by decide)) (fun _ => ?_)
      refine Rn.bipush (v := (nI 10)) dX10_readPart_46 rfl ?_
      refine Rn.goto 52 dX10_readPart_48 (by decide) ?_
      refine Rn.iload_n dX10_readPart_52 rfl rfl ?_
      refine Rn.if_eq (tgt := 60) dX10_readPart_53 (by decide) (fun h9 => absurd h9 (by decide)) (fun _ => ?_)
      refine Rn.iload_n dX10_readPart_56 rfl rfl ?_
      refine Rn.goto 61 dX10_readPart_57 (by decide) ?_
      refine Rn.callVp (As := [_, _]) dX10_readPart_61 mv_X10_182 (by first | rfl | exact gC0 (by assumption) | exact gL0 (by assumption)) rfl rfl rfl (Nat.le_of_ble_eq_true rfl) (ct_emits G _ I _ _ _ _ _ _ _ (by omega)) ?_
      refine Rn.iload_n dX10_readPart_64 rfl rfl ?_
      refine Rn.if_lt (tgt := 72) dX10_readPart_65 (by decide) (fun _ => ?_) (fun h9 => absurd h9 (by decide))
      refine Rn.iconst (v := (nI 0)) dX10_readPart_72 rfl ?_
      exact Rn.zret dX10_readPart_73 rfl rfl (⟨p2, b2, q, s + 1, _, rfl, by omega, q6, by omega, hq, by omega, by omega, fun j hj => emV_lt hj, Or.inl ⟨rfl, (if_neg (fun z => z.elim hw2 (fun y => y ht))).trans (by rw [hb3])⟩⟩)
    · have hb3 : b2 = b1 := by rw [hb2, hp2, ← h0, bl_bl]
      refine Rn.hpp _ (PS_PB _ _ _ _ _ _ _ _) ?_
      refine Rn.goto 40 dX10_readPart_33 (by decide) ?_
      refine Rn.istore_n dX10_readPart_40 rfl (by decide) ?_
      refine Rn.aload_n dX10_readPart_41 rfl rfl ?_
      refine Rn.iload_n dX10_readPart_42 rfl rfl ?_
      refine Rn.if_eq (tgt := 51) dX10_readPart_43 (by decide) (fun h9 => absurd h9 (by decide)) (fun _ => ?_)
      refine Rn.bipush (v := (nI 10)) dX10_readPart_46 rfl ?_
      refine Rn.goto 52 dX10_readPart_48 (by decide) ?_
      refine Rn.iload_n dX10_readPart_52 rfl rfl ?_
      refine Rn.if_eq (tgt := 60) dX10_readPart_53 (by decide) (fun h9 => absurd h9 (by decide)) (fun _ => ?_)
      refine Rn.iload_n dX10_readPart_56 rfl rfl ?_
      refine Rn.goto 61 dX10_readPart_57 (by decide) ?_
      refine Rn.callVp (As := [_, _]) dX10_readPart_61 mv_X10_182 (by first | rfl | exact gC0 (by assumption) | exact gL0 (by assumption)) rfl rfl rfl (Nat.le_of_ble_eq_true rfl) (ct_emits G _ I _ _ _ _ _ _ _ (by omega)) ?_
      refine Rn.iload_n dX10_readPart_64 rfl rfl ?_
      refine Rn.if_lt (tgt := 72) dX10_readPart_65 (by decide) (fun h18 => ?_) (fun h18 => ?_)
      · exact absurd h18 (Int32.not_lt.mpr h6)
      · refine Rn.iconst (v := (nI 1)) dX10_readPart_68 rfl ?_
        refine Rn.goto 73 dX10_readPart_69 (by decide) ?_
        exact Rn.zret dX10_readPart_73 rfl rfl (⟨p2, b2, q, s + 1, _, rfl, by omega, q6, by omega, hq, by omega, by omega, fun j hj => emV_lt hj, Or.inr ⟨rfl, rfl, by omega, seg.push (k := 10) (by decide) (emV_at _ _ _ _), (if_pos (Or.inr (by rw [← hb3]; exact h9))).trans (by rw [h10, hb3])⟩⟩)
end Par
