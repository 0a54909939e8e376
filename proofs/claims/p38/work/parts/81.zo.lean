/-! what the law's loop keeps: both tapes, both faults, both coasts' women, things, texts and blue ones -/
def P6 (I : Hi) : Prop := XM I ∧ MC I ∧ MR I
theorem P6.x {I : Hi} (h : P6 I) : X6 I I := ⟨h.1, h.2.1, h.2.2, fun _ _ => rfl, fun _ _ => rfl, fun _ _ => rfl⟩
theorem P6.out {I : Hi} (h : P6 I) (j : Nat) (v : Int32) : P6 (zup I 107 j v) := ⟨XM.up h.1 (by decide), h.2.1.of (by rw [zup_ne _ _ (by decide)]) (by rw [zup_ne _ _ (by decide)]) (fun a a1 a2 => by rw [zup_ne _ _ (by omega)]) (fun i _ => by rw [zup_ne _ _ (by decide)]) (fun i _ => by rw [zup_ne _ _ (by decide)]), h.2.2.of (by rw [zup_ne _ _ (by decide)]) (by rw [zup_ne _ _ (by decide)]) (fun j _ => by rw [zup_ne _ _ (by decide)])⟩
/-- how many lines may be read -/
def KX (I J : Hi) : Prop := J 38 0 = I 38 0 ∧ J 37 0 = I 37 0
/-- the bytes of both tapes -/
def KC (I J : Hi) : Prop := (∀ j, j < 400 → J 2 j = I 2 j) ∧ ∀ j, j < 400 → J 100 j = I 100 j
/-- whether an image is kept; the faults -/
def KF (I J : Hi) : Prop := J 0 11 = I 0 11 ∧ J 0 12 = I 0 12 ∧ J 94 6 = I 94 6 ∧ J 94 14 = I 94 14
/-- women, things, texts, blue ones: of both coasts, of both images -/
def KQ (I J : Hi) : Prop := (∀ j, j < 3 → J 3 j = I 3 j) ∧ (∀ i, i < 8 → J 5 (9 * i + 8) = I 5 (9 * i + 8)) ∧ (∀ j, j < 3 → J 11 j = I 11 j) ∧ (∀ i, i < 8 → J 13 (9 * i + 8) = I 13 (9 * i + 8)) ∧ (∀ j, D95 j → J 95 j = I 95 j) ∧ ∀ j, D95 j → J 96 j = I 96 j
theorem KX.tr {I J K : Hi} (h1 : KX I J) (h2 : KX J K) : KX I K := ⟨h2.1.trans h1.1, h2.2.trans h1.2⟩
theorem KC.tr {I J K : Hi} (h1 : KC I J) (h2 : KC J K) : KC I K := ⟨fun j hj => (h2.1 j hj).trans (h1.1 j hj), fun j hj => (h2.2 j hj).trans (h1.2 j hj)⟩
theorem KF.tr {I J K : Hi} (h1 : KF I J) (h2 : KF J K) : KF I K := ⟨h2.1.trans h1.1, h2.2.1.trans h1.2.1, h2.2.2.1.trans h1.2.2.1, h2.2.2.2.trans h1.2.2.2⟩
theorem KQ.tr {I J K : Hi} (h1 : KQ I J) (h2 : KQ J K) : KQ I K := ⟨fun j hj => (h2.1 j hj).trans (h1.1 j hj), fun j hj => (h2.2.1 j hj).trans (h1.2.1 j hj), fun j hj => (h2.2.2.1 j hj).trans (h1.2.2.1 j hj), fun j hj => (h2.2.2.2.1 j hj).trans (h1.2.2.2.1 j hj), fun j hj => (h2.2.2.2.2.1 j hj).trans (h1.2.2.2.2.1 j hj), fun j hj => (h2.2.2.2.2.2 j hj).trans (h1.2.2.2.2.2 j hj)⟩
theorem KX.all {I J : Hi} (h : ∀ a, a ≠ 107 → J a = I a) : KX I J := ⟨by rw [h 38 (by decide)], by rw [h 37 (by decide)]⟩
theorem KC.all {I J : Hi} (h : ∀ a, a ≠ 107 → J a = I a) : KC I J := ⟨fun j _ => by rw [h 2 (by decide)], fun j _ => by rw [h 100 (by decide)]⟩
theorem KF.all {I J : Hi} (h : ∀ a, a ≠ 107 → J a = I a) : KF I J := ⟨by rw [h 0 (by decide)], by rw [h 0 (by decide)], by rw [h 94 (by decide)], by rw [h 94 (by decide)]⟩
theorem KQ.all {I J : Hi} (h : ∀ a, a ≠ 107 → J a = I a) : KQ I J := ⟨fun j _ => by rw [h 3 (by decide)], fun j _ => by rw [h 5 (by decide)], fun j _ => by rw [h 11 (by decide)], fun j _ => by rw [h 13 (by decide)], fun j _ => by rw [h 95 (by decide)], fun j _ => by rw [h 96 (by decide)]⟩
theorem out107 (I : Hi) (j : Nat) (v : Int32) : ∀ a, a ≠ 107 → (zup I 107 j v) a = I a := fun _ h => zup_ne _ _ h
def WQ (I J : Hi) : Prop := BX J ∧ P6 J ∧ J 1 1 = I 1 1 ∧ J 94 9 = I 94 9 ∧ KX I J ∧ KC I J ∧ KF I J ∧ KQ I J
theorem WQ.tr {I J K : Hi} (h1 : WQ I J) (h2 : WQ J K) : WQ I K := by
  obtain ⟨-, -, a3, a4, a5, a6, a7, a8⟩ := h1
  obtain ⟨b1, b2, b3, b4, b5, b6, b7, b8⟩ := h2
  exact ⟨b1, b2, b3.trans a3, b4.trans a4, a5.tr b5, a6.tr b6, a7.tr b7, a8.tr b8⟩
theorem WQ.out {I J : Hi} (h : WQ I J) (j : Nat) (v : Int32) : WQ I (zup J 107 j v) := by
  have o := out107 J j v
  obtain ⟨b1, b2, b3, b4, b5, b6, b7, b8⟩ := h
  exact ⟨BX.triv b1 (by decide) _, b2.out j v, by rw [o 1 (by decide)]; exact b3, by rw [o 94 (by decide)]; exact b4, b5.tr (KX.all o), b6.tr (KC.all o), b7.tr (KF.all o), b8.tr (KQ.all o)⟩
/-- the class has used the tape up -/
def TQ (I J : Hi) : Prop := BX J ∧ P6 J ∧ J 1 1 = nI 0 ∧ J 94 9 = I 94 9 ∧ KX I J ∧ KF I J ∧ KQ I J
theorem TQ.out {I J : Hi} (h : TQ I J) (j : Nat) (v : Int32) : TQ I (zup J 107 j v) := by
  have o := out107 J j v
  obtain ⟨b1, b2, b3, b4, b5, b7, b8⟩ := h
  exact ⟨BX.triv b1 (by decide) _, b2.out j v, by rw [o 1 (by decide)]; exact b3, by rw [o 94 (by decide)]; exact b4, b5.tr (KX.all o), b7.tr (KF.all o), b8.tr (KQ.all o)⟩
/-- the reference has used the tape up -/
def TM (I J : Hi) : Prop := BX J ∧ P6 J ∧ J 1 1 = I 1 1 ∧ J 94 9 = nI 0 ∧ KX I J ∧ KF I J ∧ KQ I J
def nIn (S : List (Nat × Nat × Nat)) (c j : Nat) : Bool := !S.any (fun q => decide (q.1 = c) && (Nat.ble q.2.1 j && Nat.ble j q.2.2))
def nInC (S : List (Nat × Nat × Nat)) (c : Nat) : Bool := !S.any (fun q => decide (q.1 = c))
theorem nIn_ok {S : List (Nat × Nat × Nat)} {I J : Hi} (h : Fs S I J) {c j : Nat} (h1 : nIn S c j = true) (hj : j < 5000) : J c j = I c j := h c j hj ((Bool.not_eq_true' _).mp h1)
theorem nInC_ok {S : List (Nat × Nat × Nat)} {I J : Hi} (h : Fs S I J) {c : Nat} (h1 : nInC S c = true) : ∀ j, j < 400 → J c j = I c j := by
  intro j hj
  refine h c j (by omega) ?_
  have h2 := List.any_eq_false.mp ((Bool.not_eq_true' _).mp h1)
  refine List.any_eq_false.mpr (fun q hq => ?_)
  have h3 := h2 q hq
  simp only [decide_eq_true_eq] at h3
  simp [h3]
theorem D95.lt {j : Nat} (h : D95 j) : j < 400 := by unfold D95 at h; omega
def kF (S : List (Nat × Nat × Nat)) : Bool := nIn S 38 0 && (nIn S 37 0 && (nIn S 0 11 && (nIn S 0 12 && (nIn S 94 6 && (nIn S 94 14 && (nInC S 11 && (nInC S 13 && nInC S 96)))))))
theorem kF_ok {S : List (Nat × Nat × Nat)} {I J : Hi} (h : Fs S I J) (hX : X6 I J) (h1 : kF S = true) : KX I J ∧ KF I J ∧ KQ I J := by
  simp only [kF, Bool.and_eq_true] at h1
  obtain ⟨c1, c2, c3, c4, c5, c6, c7, c8, c9⟩ := h1
  obtain ⟨x1, x2, x3, x4, x5, x6⟩ := hX
  exact ⟨⟨nIn_ok h c1 (by decide), nIn_ok h c2 (by decide)⟩, ⟨nIn_ok h c3 (by decide), nIn_ok h c4 (by decide), nIn_ok h c5 (by decide), nIn_ok h c6 (by decide)⟩, x5, x6, fun j hj => nInC_ok h c7 j (by omega), fun i hi => nInC_ok h c8 _ (by omega), x4, fun j hj => nInC_ok h c9 j hj.lt⟩
def kO1 (S : List (Nat × Nat × Nat)) : Bool := nIn S 1 1 && (nIn S 94 9 && kF S)
def kO2 (S : List (Nat × Nat × Nat)) : Bool := nInC S 2 && nInC S 100
theorem kO_ok {S : List (Nat × Nat × Nat)} {I J : Hi} (h : Fs S I J) (hB : BX J) (hX : X6 I J) (h1 : kO1 S = true) (h2 : kO2 S = true) : WQ I J := by
  simp only [kO1, kO2, Bool.and_eq_true] at h1 h2
  obtain ⟨c1, c2, c3⟩ := h1
  obtain ⟨k1, k2, k3⟩ := kF_ok h hX c3
  exact ⟨hB, ⟨hX.1, hX.2.1, hX.2.2.1⟩, nIn_ok h c1 (by decide), nIn_ok h c2 (by decide), k1, ⟨nInC_ok h h2.1, nInC_ok h h2.2⟩, k2, k3⟩
theorem ct_top {G : Gx} {S : List (Nat × Nat × Nat)} {c : Ctr} {I : Hi} (h : CtOK G (hxM S) (X6 I) mtL c) (k : Nat) (vs : List Value) (hB : BX I) (hX : P6 I) (hA : argM vs c.2.2.2.1) (hF : faM I c.2.2.2.2.1) (h1 : kO1 c.2.2.2.2.2.1 = true) (h2 : kO2 c.2.2.2.2.2.1 = true) : Ct G GAM (mtL c.1).1 (c.2.1 + k) c.2.2.1 vs I (fun o J => WQ I J ∧ ∃ p ∈ c.2.2.2.2.2.2, resM o p.1) := by
  refine (h k I vs hB hX.x hA hF).weak (fun o J q => ?_)
  obtain ⟨a1, a2, a3, p, hp, a4, -⟩ := q
  exact ⟨kO_ok a3 a1 a2 h1 h2, p, hp, a4⟩
def fa0 (c j : Nat) (p : (Option Iv ⊕ Nat) × Fa) : Bool := p.2.any (fun e => decide (e.1 = (c, j)) && decide (e.2 = (0, 0)))
theorem fa0_ok {c j : Nat} {p : (Option Iv ⊕ Nat) × Fa} {J : Hi} (h : fa0 c j p = true) (hf : faM J p.2) : J c j = nI 0 := by
  obtain ⟨⟨q, iv⟩, h1, h2⟩ := List.any_eq_true.mp h
  simp only [Bool.and_eq_true, decide_eq_true_eq] at h2
  have h3 := hf _ h1
  rw [h2.1, h2.2] at h3
  have h3 : (0 : Int) ≤ (J c j).toInt ∧ (J c j).toInt ≤ 0 := h3
  exact Int32.toInt_inj.mp (by rw [show (nI 0).toInt = 0 from rfl]; omega)
def kT (S : List (Nat × Nat × Nat)) : Bool := nIn S 94 9 && kF S
def kM0 (S : List (Nat × Nat × Nat)) : Bool := nIn S 1 1 && kF S
theorem ct_topT {G : Gx} {S : List (Nat × Nat × Nat)} {c : Ctr} {I : Hi} (h : CtOK G (hxM S) (X6 I) mtL c) (k : Nat) (vs : List Value) (hB : BX I) (hX : P6 I) (hA : argM vs c.2.2.2.1) (hF : faM I c.2.2.2.2.1) (h1 : c.2.2.2.2.2.2.all (fa0 1 1) = true) (h2 : kT c.2.2.2.2.2.1 = true) : Ct G GAM (mtL c.1).1 (c.2.1 + k) c.2.2.1 vs I (fun o J => TQ I J ∧ ∃ p ∈ c.2.2.2.2.2.2, resM o p.1) := by
  refine (h k I vs hB hX.x hA hF).weak (fun o J q => ?_)
  obtain ⟨a1, a2, a3, p, hp, a4, a5⟩ := q
  simp only [kT, Bool.and_eq_true] at h2
  exact ⟨⟨a1, ⟨a2.1, a2.2.1, a2.2.2.1⟩, fa0_ok (List.all_eq_true.mp h1 p hp) a5, nIn_ok a3 h2.1 (by decide), kF_ok a3 a2 h2.2⟩, p, hp, a4⟩
theorem ct_topM {G : Gx} {S : List (Nat × Nat × Nat)} {c : Ctr} {I : Hi} (h : CtOK G (hxM S) (X6 I) mtL c) (k : Nat) (vs : List Value) (hB : BX I) (hX : P6 I) (hA : argM vs c.2.2.2.1) (hF : faM I c.2.2.2.2.1) (h1 : c.2.2.2.2.2.2.all (fa0 94 9) = true) (h2 : kM0 c.2.2.2.2.2.1 = true) : Ct G GAM (mtL c.1).1 (c.2.1 + k) c.2.2.1 vs I (fun o J => TM I J ∧ ∃ p ∈ c.2.2.2.2.2.2, resM o p.1) := by
  refine (h k I vs hB hX.x hA hF).weak (fun o J q => ?_)
  obtain ⟨a1, a2, a3, p, hp, a4, a5⟩ := q
  simp only [kM0, Bool.and_eq_true] at h2
  exact ⟨⟨a1, ⟨a2.1, a2.2.1, a2.2.2.1⟩, nIn_ok a3 h2.1 (by decide), fa0_ok (List.all_eq_true.mp h1 p hp) a5, kF_ok a3 a2 h2.2⟩, p, hp, a4⟩
/-- what tries and takes back keeps all of it -/
theorem BK.w {I J : Hi} (hX : P6 I) (h : BK I J) : WQ I J := by
  obtain ⟨b1, b2, b3⟩ := h
  have x := okX6 I I J (fun c j hd => b3 c j (by have := hxD_iff.mp hd; omega) (by have := hxD_iff.mp hd; omega) (by have := hxD_iff.mp hd; omega) (by have := hxD_iff.mp hd; omega) (by have := hxD_iff.mp hd; omega)) hX.x
  obtain ⟨x1, x2, x3, x4, x5, x6⟩ := x
  exact ⟨b1, ⟨x1, x2, x3⟩, b3 1 1 (by decide) (by decide) (by decide) (by decide) (by omega), b3 94 9 (by decide) (by decide) (by decide) (by decide) (by omega), ⟨b3 38 0 (by decide) (by decide) (by decide) (by decide) (by omega), b3 37 0 (by decide) (by decide) (by decide) (by decide) (by omega)⟩, ⟨fun j hj => b3 2 j (by omega) (by decide) (by decide) (by decide) (by omega), fun j hj => b3 100 j (by omega) (by decide) (by decide) (by decide) (by omega)⟩, ⟨b3 0 11 (by decide) (by decide) (by decide) (by decide) (by omega), b3 0 12 (by decide) (by decide) (by decide) (by decide) (by omega), b3 94 6 (by decide) (by decide) (by decide) (by decide) (by omega), b3 94 14 (by decide) (by decide) (by decide) (by decide) (by omega)⟩, x5, x6, fun j hj => b3 11 j (by omega) (by decide) (by decide) (by decide) (by omega), fun i hi => b3 13 _ (by omega) (by decide) (by decide) (by decide) (by omega), x4, fun j hj => b3 96 j (by have := hj.lt; omega) (by decide) (by decide) (by decide) (by omega)⟩
/-- match keeps all of it -/
theorem LQm.w {I J : Hi} {o : Rs} (hX : P6 I) (h : LQm I (I 94 9) o J) : WQ I J := by
  obtain ⟨⟨-, a, b, c, z, e⟩, f, g⟩ := h
  have e95 := f 95 (by decide) (by decide) (by decide) (by decide)
  have lo : ∀ a, a < 94 → J a = I a := fun a ha => e a (Or.inl ha)
  exact ⟨a, ⟨b, hX.2.1.of (by rw [lo 44 (by decide)]) (by rw [lo 44 (by decide)]) (fun a _ h => lo a h) (fun i _ => by rw [lo 3 (by decide)]) (fun i _ => by rw [lo 5 (by decide)]), hX.2.2.of (g 7 (by decide)) (f 99 (by decide) (by decide) (by decide) (by decide)) (fun j _ => by rw [e95])⟩, by rw [lo 1 (by decide)], z, ⟨by rw [lo 38 (by decide)], by rw [lo 37 (by decide)]⟩, ⟨fun j _ => by rw [lo 2 (by decide)], fun j _ => by rw [e 100 (Or.inr rfl)]⟩, ⟨by rw [lo 0 (by decide)], by rw [lo 0 (by decide)], c, g 14 (by decide)⟩, fun j _ => by rw [lo 3 (by decide)], fun i _ => by rw [lo 5 (by decide)], fun j _ => by rw [lo 11 (by decide)], fun i _ => by rw [lo 13 (by decide)], fun j _ => by rw [e95], fun j _ => by rw [f 96 (by decide) (by decide) (by decide) (by decide)]⟩
/-- both sides' columns of a coast: a of the class (its things behind), b of the reference -/
def CQ (I : Hi) (a b : Nat) : Prop := ∃ w t n, w ≤ 8 ∧ t ≤ 8 ∧ n ≤ 12 ∧ I a 0 = nI w ∧ I b 0 = nI w ∧ I a 1 = nI t ∧ I b 1 = nI t ∧ I a 2 = nI n ∧ I b 2 = nI n ∧ ∀ k, k < t → I (a + 2) (9 * k + 8) = I b (73 + 9 * k)
theorem D95_0 : D95 0 := Or.inl (by decide)
theorem D95_1 : D95 1 := Or.inl (by decide)
theorem D95_2 : D95 2 := Or.inl (by decide)
theorem D95_b {k : Nat} (h : k < 8) : D95 (73 + 9 * k) := Or.inr ⟨by omega, by omega, by omega⟩
theorem CQ.of {I J : Hi} {a b a' b' : Nat} (h : CQ I a b) (h1 : ∀ j, j < 3 → J a' j = I a j) (h2 : ∀ i, i < 8 → J (a' + 2) (9 * i + 8) = I (a + 2) (9 * i + 8)) (h3 : ∀ j, D95 j → J b' j = I b j) : CQ J a' b' := by
  obtain ⟨w, t, n, hw, ht, hn, q1, q2, q3, q4, q5, q6, q7⟩ := h
  exact ⟨w, t, n, hw, ht, hn, (h1 0 (by decide)).trans q1, (h3 0 D95_0).trans q2, (h1 1 (by decide)).trans q3, (h3 1 D95_1).trans q4, (h1 2 (by decide)).trans q5, (h3 2 D95_2).trans q6, fun k hk => by rw [h2 k (by omega), h3 _ (D95_b (by omega))]; exact q7 k hk⟩
def TE (I : Hi) : Prop := ∃ (c : Nat → Nat) (e : Nat), e ≤ 400 ∧ I 1 1 = nI e ∧ I 94 9 = nI e ∧ ∀ i, i < e → c i < 256 ∧ I 2 i = nI (c i) ∧ I 100 i = sb (c i)
def LI (I : Hi) : Prop := BX I ∧ P6 I ∧ I 38 0 = nI 12 ∧ I 37 0 = nI 14 ∧ TE I ∧ I 0 11 = I 94 6 ∧ I 0 12 = I 94 14 ∧ CQ I 3 95 ∧ CQ I 11 96
theorem LI.of {I J : Hi} (h : LI I) (hQ : WQ I J) : LI J := by
  obtain ⟨-, -, h38, h37, ⟨c, e, he, t1, t9, hb⟩, f1, f2, cq1, cq2⟩ := h
  obtain ⟨q1, q2, q3, q4, q5, q6, ⟨k1, k2, k3, k4⟩, y1, y2, y3, y4, y5, y6⟩ := hQ
  exact ⟨q1, q2, by rw [q5.1]; exact h38, by rw [q5.2]; exact h37, ⟨c, e, he, by rw [q3]; exact t1, by rw [q4]; exact t9, fun i hi => ⟨(hb i hi).1, by rw [q6.1 i (by omega)]; exact (hb i hi).2.1, by rw [q6.2 i (by omega)]; exact (hb i hi).2.2⟩⟩, by rw [k1, k3]; exact f1, by rw [k2, k4]; exact f2, cq1.of y1 y2 y5, cq2.of y3 y4 y6⟩
theorem TE.nil {K : Hi} (h1 : K 1 1 = nI 0) (h9 : K 94 9 = nI 0) : TE K := ⟨fun _ => 0, 0, by decide, h1, h9, fun i hi => absurd hi (by omega)⟩
theorem LI.take {I J K : Hi} (h : LI I) (h1 : TQ I J) (h2 : TM J K) : LI K := by
  obtain ⟨-, -, h38, h37, -, f1, f2, cq1, cq2⟩ := h
  obtain ⟨-, -, a3, -, a5, ⟨k1, k2, k3, k4⟩, y1, y2, y3, y4, y5, y6⟩ := h1
  obtain ⟨b1, b2, b3, b4, b5, ⟨g1, g2, g3, g4⟩, z1, z2, z3, z4, z5, z6⟩ := h2
  exact ⟨b1, b2, by rw [b5.1, a5.1]; exact h38, by rw [b5.2, a5.2]; exact h37, TE.nil (by rw [b3]; exact a3) b4, by rw [g1, g3, k1, k3]; exact f1, by rw [g2, g4, k2, k4]; exact f2, (cq1.of y1 y2 y5).of z1 z2 z5, (cq2.of y3 y4 y6).of z3 z4 z6⟩
/-- only the tapes have changed -/
theorem LI.keep {I K : Hi} (h : LI I) (hB : BX K) (hX : XM K) (hT : TE K) (hc : ∀ a, a ≠ 1 → a ≠ 2 → a ≠ 94 → a ≠ 100 → a ≠ 101 → K a = I a) (h94 : ∀ j, j ≠ 0 → j ≠ 9 → K 94 j = I 94 j) : LI K := by
  obtain ⟨-, ⟨-, m1, m2⟩, h38, h37, -, f1, f2, cq1, cq2⟩ := h
  have q : ∀ a, a = 0 ∨ (3 ≤ a ∧ a ≤ 93) ∨ (95 ≤ a ∧ a ≤ 99) → K a = I a := fun a ha => hc a (by omega) (by omega) (by omega) (by omega) (by omega)
  exact ⟨hB, ⟨hX, m1.of (by rw [q 44 (by decide)]) (by rw [q 44 (by decide)]) (fun a a1 a2 => q a (by omega)) (fun i _ => by rw [q 3 (by decide)]) (fun i _ => by rw [q 5 (by decide)]), m2.of (h94 7 (by decide) (by decide)) (q 99 (by decide)) (fun j _ => by rw [q 95 (by decide)])⟩, by rw [q 38 (by decide)]; exact h38, by rw [q 37 (by decide)]; exact h37, hT, by rw [q 0 (by decide), h94 6 (by decide) (by decide)]; exact f1, by rw [q 0 (by decide), h94 14 (by decide) (by decide)]; exact f2, cq1.of (fun j _ => by rw [q 3 (by decide)]) (fun j _ => show K 5 _ = I 5 _ by rw [q 5 (by decide)]) (fun j _ => by rw [q 95 (by decide)]), cq2.of (fun j _ => by rw [q 11 (by decide)]) (fun j _ => show K 13 _ = I 13 _ by rw [q 13 (by decide)]) (fun j _ => by rw [q 96 (by decide)])⟩
