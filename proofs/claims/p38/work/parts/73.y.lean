/-! the reference's reader of signs, words and numbers, told by the text -/
def sb (b : Nat) : Int32 := Int32.ofInt (if b < 128 then (b : Int) else (b : Int) - 256)
theorem sb_toInt {b : Nat} (h : b < 256) : (sb b).toInt = if b < 128 then (b : Int) else (b : Int) - 256 := by
  unfold sb
  split
  · rw [toI_of (by omega) (by omega)]
  · rw [toI_of (by omega) (by omega)]
theorem sb_lt {b s : Nat} (h : b < 256) (hs : s < 128) : sb b < nI s ↔ (b < s ∨ 128 ≤ b) := by
  rw [Int32.lt_iff_toInt_lt, sb_toInt h, nI_toInt (by omega)]
  split <;> omega
theorem sb_le {b s : Nat} (h : b < 256) (hs : s < 128) : sb b ≤ nI s ↔ (b ≤ s ∨ 128 ≤ b) := by
  rw [Int32.le_iff_toInt_le, sb_toInt h, nI_toInt (by omega)]
  split <;> omega
theorem sb_eq {b s : Nat} (h : b < 256) (hs : s < 128) : sb b = nI s ↔ b = s := by
  constructor
  · intro q
    have q := congrArg Int32.toInt q
    rw [sb_toInt h, nI_toInt (by omega)] at q
    split at q <;> omega
  · intro q
    subst q
    apply Int32.toInt_inj.mp
    rw [sb_toInt h, nI_toInt (by omega), if_pos hs]
theorem sb_n {b : Nat} (h : b < 128) : sb b = nI b := (sb_eq (by omega) h).mpr rfl
/-- the reference's tape holds these bytes -/
def TY (I : Hi) (c : Nat → Nat) (e : Nat) : Prop := e ≤ 400 ∧ I 94 11 = nI e ∧ ∀ i, i < e → c i < 256 ∧ I 100 i = sb (c i)
theorem TY.pb {I : Hi} {c : Nat → Nat} {e p b : Nat} (h : TY I c e) : TY (PB I p b) c e := ⟨h.1, h.2.1, h.2.2⟩
theorem TY.p10 {I : Hi} {c : Nat → Nat} {e : Nat} {x : Int32} (h : TY I c e) : TY (zup I 94 10 x) c e := ⟨h.1, h.2.1, h.2.2⟩
theorem tn_0 {c : Nat → Nat} {e q : Nat} (h : dx c e q = q) : tn c e q = -1 := by
  unfold tn
  split
  · rw [h, Nat.sub_self]; rfl
  · rfl
section LexY
variable (G : Gx) (d : Nat) (I : Hi) {c : Nat → Nat} {e : Nat}
theorem cx_isAt (lo hi p : Nat) (hlo : lo < 128) (hhi : hi < 128) (hT : TY I c e) (hp : p ≤ e) (h10 : I 94 10 = nI p) : Ct G GAM mX10_isAt d 0 [.ref 94, .int (nI lo), .int (nI hi)] I (Rv (fun v J => J = I ∧ ((¬ (p < e ∧ lo ≤ c p ∧ c p ≤ hi) ∧ v = some (.int (nI 0))) ∨ ((p < e ∧ lo ≤ c p ∧ c p ≤ hi) ∧ v = some (.int (nI 1)))))) := by
  have he := hT.1
  refine Ct.mk [some (.ref 94), some (.int (nI lo)), some (.int (nI hi))] ?_
  refine Rn.aload_n dX10_isAt_0 rfl rfl ?_
  refine Rn.getI dX10_isAt_1 fd_X10_89_9 (by first | rfl | exact gC0 (by assumption) | exact gL0 (by assumption)) rfl ?_
  refine Rn.topI (nI p) (by exact h10) ?_
  refine Rn.aload_n dX10_isAt_4 rfl rfl ?_
  refine Rn.getI dX10_isAt_5 fd_X10_92_9 (by first | rfl | exact gC0 (by assumption) | exact gL0 (by assumption)) rfl ?_
  refine Rn.topI (nI e) (by exact hT.2.1) ?_
  refine Rn.icmp_geN dX10_isAt_8 41 (fun h1 => ?_) (fun h1 => ?_)
  · refine Rn.iconst (v := (nI 0)) dX10_isAt_41 rfl ?_
    exact Rn.zret dX10_isAt_42 rfl rfl (⟨rfl, Or.inl ⟨fun z => by omega, rfl⟩⟩)
  · have hc := hT.2.2 p h1
    refine Rn.aload_n dX10_isAt_11 rfl rfl ?_
    refine Rn.getR dX10_isAt_12 fd_X10_29_9 (by first | rfl | exact gC0 (by assumption) | exact gL0 (by assumption)) rfl ?_
    refine Rn.aload_n dX10_isAt_15 rfl rfl ?_
    refine Rn.getI dX10_isAt_16 fd_X10_89_9 (by first | rfl | exact gC0 (by assumption) | exact gL0 (by assumption)) rfl ?_
    refine Rn.topI (nI p) (by exact h10) ?_
    refine Rn.baldN dX10_isAt_19 (by first | rfl | exact gC1 (by assumption) | exact gC2 (by assumption) | exact gC3 (by assumption) | exact gL1 (by assumption) | exact gL2 (by assumption) | exact gL3 (by assumption) | exact gL4 (by assumption) | exact gL5 (by assumption) | exact gL6 (by assumption)) ?_
    refine Rn.topI (sb (c p)) (by exact hc.2) ?_
    refine Rn.iload_n dX10_isAt_20 rfl rfl ?_
    refine Rn.icmp_lt (tgt := 41) dX10_isAt_21 (by decide) (fun h2 => ?_) (fun h2 => ?_)
    · have h2 := (sb_lt hc.1 hlo).mp h2
      refine Rn.iconst (v := (nI 0)) dX10_isAt_41 rfl ?_
      exact Rn.zret dX10_isAt_42 rfl rfl (⟨rfl, Or.inl ⟨fun z => by omega, rfl⟩⟩)
    · have h2 : ¬ (c p < lo ∨ 128 ≤ c p) := fun z => h2 ((sb_lt hc.1 hlo).mpr z)
      refine Rn.aload_n dX10_isAt_24 rfl rfl ?_
      refine Rn.getR dX10_isAt_25 fd_X10_29_9 (by first | rfl | exact gC0 (by assumption) | exact gL0 (by assumption)) rfl ?_
      refine Rn.aload_n dX10_isAt_28 rfl rfl ?_
      refine Rn.getI dX10_isAt_29 fd_X10_89_9 (by first | rfl | exact gC0 (by assumption) | exact gL0 (by assumption)) rfl ?_
      refine Rn.topI (nI p) (by exact h10) ?_
      refine Rn.baldN dX10_isAt_32 (by first | rfl | exact gC1 (by assumption) | exact gC2 (by assumption) | exact gC3 (by assumption) | exact gL1 (by assumption) | exact gL2 (by assumption) | exact gL3 (by assumption) | exact gL4 (by assumption) | exact gL5 (by assumption) | exact gL6 (by assumption)) ?_
      refine Rn.topI (sb (c p)) (by exact hc.2) ?_
      refine Rn.iload_n dX10_isAt_33 rfl rfl ?_
      refine Rn.icmp_gt (tgt := 41) dX10_isAt_34 (by decide) (fun h3 => ?_) (fun h3 => ?_)
      · have h3 : ¬ sb (c p) ≤ nI hi := Int32.not_le.mpr h3
        have h3 : ¬ (c p ≤ hi ∨ 128 ≤ c p) := fun z => h3 ((sb_le hc.1 hhi).mpr z)
        refine Rn.iconst (v := (nI 0)) dX10_isAt_41 rfl ?_
        exact Rn.zret dX10_isAt_42 rfl rfl (⟨rfl, Or.inl ⟨fun z => h3 (Or.inl z.2.2), rfl⟩⟩)
      · have h3 := (sb_le hc.1 hhi).mp (Int32.not_lt.mp h3)
        refine Rn.iconst (v := (nI 1)) dX10_isAt_37 rfl ?_
        refine Rn.goto 42 dX10_isAt_38 (by decide) ?_
        exact Rn.zret dX10_isAt_42 rfl rfl (⟨rfl, Or.inr ⟨⟨h1, by omega, by omega⟩, rfl⟩⟩)
theorem lq_blanks {kx : Kx} {b : Nat} (hT : TY I c e) (q : Nat) (kk : Rn G GAM mX10_blanks kx (d + 1) b 24 [some (.ref 94)] [] (zup I 94 10 (nI q))) : ∀ m p : Nat, e ≤ p + m → p ≤ e → bl c e p = q → Rn G GAM mX10_blanks kx (d + 1) b 0 [some (.ref 94)] [] (zup I 94 10 (nI p)) := by
  intro m
  induction m with
  | zero =>
    intro p h1 h2 h3
    refine Rn.aload_n dX10_blanks_0 rfl rfl ?_
    refine Rn.bipush (v := (nI 32)) dX10_blanks_1 rfl ?_
    refine Rn.bipush (v := (nI 32)) dX10_blanks_3 rfl ?_
    refine Rn.callV (As := [_, _]) dX10_blanks_5 mv_X10_95 (by first | rfl | exact gC0 (by assumption) | exact gL0 (by assumption)) rfl rfl rfl (Nat.le_of_ble_eq_true rfl) (cx_isAt G d _ 32 32 p (by decide) (by decide) hT.p10 h2 (by rfl)) (fun _ _ h => h) (fun v J h => ?_)
    obtain ⟨rfl, ⟨h4, rfl⟩ | ⟨h4, rfl⟩⟩ := h
    · rw [bl, rn_out (fun z y => h4 ⟨z, y⟩)] at h3
      subst h3
      refine Rn.if_eq (tgt := 24) dX10_blanks_8 (by decide) (fun _ => ?_) (fun h9 => absurd h9 (by decide))
      exact kk
    · exact absurd h4.1 (by omega)
  | succ m ih =>
    intro p h1 h2 h3
    refine Rn.aload_n dX10_blanks_0 rfl rfl ?_
    refine Rn.bipush (v := (nI 32)) dX10_blanks_1 rfl ?_
    refine Rn.bipush (v := (nI 32)) dX10_blanks_3 rfl ?_
    refine Rn.callV (As := [_, _]) dX10_blanks_5 mv_X10_95 (by first | rfl | exact gC0 (by assumption) | exact gL0 (by assumption)) rfl rfl rfl (Nat.le_of_ble_eq_true rfl) (cx_isAt G d _ 32 32 p (by decide) (by decide) hT.p10 h2 (by rfl)) (fun _ _ h => h) (fun v J h => ?_)
    obtain ⟨rfl, ⟨h4, rfl⟩ | ⟨h4, rfl⟩⟩ := h
    · rw [bl, rn_out (fun z y => h4 ⟨z, y⟩)] at h3
      subst h3
      refine Rn.if_eq (tgt := 24) dX10_blanks_8 (by decide) (fun _ => ?_) (fun h9 => absurd h9 (by decide))
      exact kk
    · rw [bl, rn_in h4.1 h4.2] at h3
      refine Rn.if_eq (tgt := 24) dX10_blanks_8 (by decide) (fun h9 => absurd h9 (by decide)) (fun _ => ?_)
      refine Rn.aload_n dX10_blanks_11 rfl rfl ?_
      refine Rn.dup dX10_blanks_12 rfl ?_
      refine Rn.getI dX10_blanks_13 fd_X10_89_9 (by first | rfl | exact gC0 (by assumption) | exact gL0 (by assumption)) rfl ?_
      refine Rn.topI (nI p) (by rfl) ?_
      refine Rn.iconst (v := (nI 1)) dX10_blanks_16 rfl ?_
      refine Rn.iadd dX10_blanks_17 ?_
      refine Rn.topI (nI (p + 1)) (by exact nI_1 p) ?_
      refine Rn.putI dX10_blanks_18 fp_X10_89_9 (by first | rfl | exact gC0 (by assumption) | exact gL0 (by assumption)) rfl ?_
      refine Rn.goto 0 dX10_blanks_21 (by decide) ?_
      exact Rn.hpp _ (zup2 _ _ _ _ _) (ih (p + 1) (by omega) (by omega) h3)
theorem cx_blanks (p : Nat) (hT : TY I c e) (hp : p ≤ e) (h10 : I 94 10 = nI p) : Ct G GAM mX10_blanks (d + 1) 0 [.ref 94] I (Rv (fun v J => v = none ∧ ∃ p', p ≤ p' ∧ p' ≤ e ∧ J = PB I p' p' ∧ p' = bl c e p)) := by
  refine Ct.mk [some (.ref 94)] ?_
  refine Rn.hpp _ (zup_same h10).symm (lq_blanks G d I hT (bl c e p) ?_ e p (by omega) hp rfl)
  refine Rn.aload_n dX10_blanks_24 rfl rfl ?_
  refine Rn.aload_n dX10_blanks_25 rfl rfl ?_
  refine Rn.getI dX10_blanks_26 fd_X10_89_9 (by first | rfl | exact gC0 (by assumption) | exact gL0 (by assumption)) rfl ?_
  refine Rn.topI (nI (bl c e p)) (by rfl) ?_
  refine Rn.putI dX10_blanks_29 fp_X10_99_9 (by first | rfl | exact gC0 (by assumption) | exact gL0 (by assumption)) rfl ?_
  exact Rn.vret dX10_blanks_32 rfl (⟨rfl, bl c e p, bl_ge, bl_le hp, rfl, rfl⟩)
theorem lq_letters {kx : Kx} {b : Nat} (hT : TY I c e) (b1 q : Nat) (kk : Rn G GAM mX10_letters kx (d + 2) b 28 [some (.ref 94)] [] (PB I q b1)) : ∀ m p : Nat, e ≤ p + m → p ≤ e → lx c e p = q → Rn G GAM mX10_letters kx (d + 2) b 4 [some (.ref 94)] [] (PB I p b1) := by
  intro m
  induction m with
  | zero =>
    intro p h1 h2 h3
    refine Rn.aload_n dX10_letters_4 rfl rfl ?_
    refine Rn.bipush (v := (nI 97)) dX10_letters_5 rfl ?_
    refine Rn.bipush (v := (nI 122)) dX10_letters_7 rfl ?_
    refine Rn.callV (As := [_, _]) dX10_letters_9 mv_X10_95 (by first | rfl | exact gC0 (by assumption) | exact gL0 (by assumption)) rfl rfl rfl (Nat.le_of_ble_eq_true rfl) (cx_isAt G (d + 1) _ 97 122 p (by decide) (by decide) hT.pb h2 (by rfl)) (fun _ _ h => h) (fun v J h => ?_)
    obtain ⟨rfl, ⟨h4, rfl⟩ | ⟨h4, rfl⟩⟩ := h
    · rw [lx, rn_out (fun z y => h4 ⟨z, y⟩)] at h3
      subst h3
      refine Rn.if_eq (tgt := 28) dX10_letters_12 (by decide) (fun _ => ?_) (fun h9 => absurd h9 (by decide))
      exact kk
    · exact absurd h4.1 (by omega)
  | succ m ih =>
    intro p h1 h2 h3
    refine Rn.aload_n dX10_letters_4 rfl rfl ?_
    refine Rn.bipush (v := (nI 97)) dX10_letters_5 rfl ?_
    refine Rn.bipush (v := (nI 122)) dX10_letters_7 rfl ?_
    refine Rn.callV (As := [_, _]) dX10_letters_9 mv_X10_95 (by first | rfl | exact gC0 (by assumption) | exact gL0 (by assumption)) rfl rfl rfl (Nat.le_of_ble_eq_true rfl) (cx_isAt G (d + 1) _ 97 122 p (by decide) (by decide) hT.pb h2 (by rfl)) (fun _ _ h => h) (fun v J h => ?_)
    obtain ⟨rfl, ⟨h4, rfl⟩ | ⟨h4, rfl⟩⟩ := h
    · rw [lx, rn_out (fun z y => h4 ⟨z, y⟩)] at h3
      subst h3
      refine Rn.if_eq (tgt := 28) dX10_letters_12 (by decide) (fun _ => ?_) (fun h9 => absurd h9 (by decide))
      exact kk
    · rw [lx, rn_in h4.1 h4.2] at h3
      refine Rn.if_eq (tgt := 28) dX10_letters_12 (by decide) (fun h9 => absurd h9 (by decide)) (fun _ => ?_)
      refine Rn.aload_n dX10_letters_15 rfl rfl ?_
      refine Rn.dup dX10_letters_16 rfl ?_
      refine Rn.getI dX10_letters_17 fd_X10_89_9 (by first | rfl | exact gC0 (by assumption) | exact gL0 (by assumption)) rfl ?_
      refine Rn.topI (nI p) (by rfl) ?_
      refine Rn.iconst (v := (nI 1)) dX10_letters_20 rfl ?_
      refine Rn.iadd dX10_letters_21 ?_
      refine Rn.topI (nI (p + 1)) (by exact nI_1 p) ?_
      refine Rn.putI dX10_letters_22 fp_X10_89_9 (by first | rfl | exact gC0 (by assumption) | exact gL0 (by assumption)) rfl ?_
      refine Rn.goto 4 dX10_letters_25 (by decide) ?_
      exact Rn.hpp _ (PB_10 _ _ _ _) (ih (p + 1) (by omega) (by omega) h3)
theorem cx_letters (p : Nat) (hT : TY I c e) (hp : p ≤ e) (h10 : I 94 10 = nI p) : Ct G GAM mX10_letters (d + 2) 0 [.ref 94] I (Rv (fun v J => v = none ∧ ∃ p' b', p ≤ b' ∧ b' ≤ p' ∧ p' ≤ e ∧ J = PB I p' b' ∧ b' = bl c e p ∧ p' = lx c e b')) := by
  refine Ct.mk [some (.ref 94)] ?_
  refine Rn.aload_n dX10_letters_0 rfl rfl ?_
  refine Rn.callV (As := []) dX10_letters_1 mv_X10_102 (by first | rfl | exact gC0 (by assumption) | exact gL0 (by assumption)) rfl rfl rfl (Nat.le_of_ble_eq_true rfl) (cx_blanks G d I p hT hp h10) (fun _ _ h => h) (fun v J h => ?_)
  obtain ⟨rfl, p1, q1, q2, rfl, q3⟩ := h
  refine lq_letters G d I hT p1 (lx c e p1) ?_ e p1 (by omega) q2 rfl
  exact Rn.vret dX10_letters_28 rfl (⟨rfl, lx c e p1, p1, q1, rn_ge, rn_le q2, rfl, q3, rfl⟩)
theorem lq_isWord {kx : Kx} {bb : Nat} (hT : TY I c e) (i b : Nat) (hi : i < zsN) (hb : b + zsLen.getD i 0 ≤ e) (h12 : I 94 12 = nI b) (k1 : (∀ k, k < zsLen.getD i 0 → c (b + k) = chN i k) → ∀ k : Nat, Rn G GAM mX10_isWord kx (d + 4) bb 67 [some (.ref 94), some (.ref (1000 + i)), some (.int (nI 1)), some (.int (nI k))] [] I) (k0 : ¬ (∀ k, k < zsLen.getD i 0 → c (b + k) = chN i k) → ∀ k : Nat, Rn G GAM mX10_isWord kx (d + 4) bb 67 [some (.ref 94), some (.ref (1000 + i)), some (.int (nI 0)), some (.int (nI k))] [] I) :
    ∀ m k : Nat, k + m = zsLen.getD i 0 → (∀ j, j < k → c (b + j) = chN i j) → Rn G GAM mX10_isWord kx (d + 4) bb 24 [some (.ref 94), some (.ref (1000 + i)), some (.int (nI 1)), some (.int (nI k))] [] I := by
  have he := hT.1
  have h8 : zsLen.getD i 0 < 8 := (zsLen_b ⟨i, hi⟩).2
  intro m
  induction m with
  | zero =>
    intro k hk ha
    refine Rn.iload_n dX10_isWord_24 rfl rfl ?_
    refine Rn.if_eq (tgt := 67) dX10_isWord_25 (by decide) (fun h9 => absurd h9 (by decide)) (fun _ => ?_)
    refine Rn.iload_n dX10_isWord_28 rfl rfl ?_
    refine Rn.aload_n dX10_isWord_29 rfl rfl ?_
    refine Rn.callVs (As := []) dX10_isWord_30 mv_X10_105 hi rfl rfl (Nat.le_of_ble_eq_true rfl) (ct_length G _ _ i hi) ?_
    refine Rn.icmp_geN dX10_isWord_33 67 (fun _ => ?_) (fun h9 => by exfalso; omega)
    exact k1 (fun j hj => ha j (by omega)) k
  | succ m ih =>
    intro k hk ha
    have hc := hT.2.2 (b + k) (by omega)
    have hch := chN_b ⟨i, hi⟩ ⟨k, by omega⟩ (by show k < zsLen.getD i 0; omega)
    have hch1 : chV i k = nI (chN i k) := hch.1
    have hch2 : chN i k ≤ 122 := hch.2.2
    refine Rn.iload_n dX10_isWord_24 rfl rfl ?_
    refine Rn.if_eq (tgt := 67) dX10_isWord_25 (by decide) (fun h9 => absurd h9 (by decide)) (fun _ => ?_)
    refine Rn.iload_n dX10_isWord_28 rfl rfl ?_
    refine Rn.aload_n dX10_isWord_29 rfl rfl ?_
    refine Rn.callVs (As := []) dX10_isWord_30 mv_X10_105 hi rfl rfl (Nat.le_of_ble_eq_true rfl) (ct_length G _ _ i hi) ?_
    refine Rn.icmp_geN dX10_isWord_33 67 (fun h9 => by exfalso; omega) (fun _ => ?_)
    refine Rn.aload_n dX10_isWord_36 rfl rfl ?_
    refine Rn.getR dX10_isWord_37 fd_X10_29_9 (by first | rfl | exact gC0 (by assumption) | exact gL0 (by assumption)) rfl ?_
    refine Rn.aload_n dX10_isWord_40 rfl rfl ?_
    refine Rn.getI dX10_isWord_41 fd_X10_99_9 (by first | rfl | exact gC0 (by assumption) | exact gL0 (by assumption)) rfl ?_
    refine Rn.topI (nI b) (by exact h12) ?_
    refine Rn.iload_n dX10_isWord_44 rfl rfl ?_
    refine Rn.iadd dX10_isWord_45 ?_
    refine Rn.topI (nI (b + k)) (by first | rfl | (simp only [nI_add, pk_mul, nI_1]; done) | (simp only [nI_add, pk_mul, nI_1]; congr 1; omega)) ?_
    refine Rn.baldN dX10_isWord_46 (by first | rfl | exact gC1 (by assumption) | exact gC2 (by assumption) | exact gC3 (by assumption) | exact gL1 (by assumption) | exact gL2 (by assumption) | exact gL3 (by assumption) | exact gL4 (by assumption) | exact gL5 (by assumption) | exact gL6 (by assumption)) ?_
    refine Rn.topI (sb (c (b + k))) (by exact hc.2) ?_
    refine Rn.aload_n dX10_isWord_47 rfl rfl ?_
    refine Rn.iload_n dX10_isWord_48 rfl rfl ?_
    refine Rn.callVs (As := [_]) dX10_isWord_49 mv_X10_110 hi rfl rfl (Nat.le_of_ble_eq_true rfl) (ct_charAt G _ _ i _ hi (by omega)) ?_
    refine Rn.topI (nI (chN i k)) (by exact hch1) ?_
    refine Rn.icmp_ne (tgt := 59) dX10_isWord_52 (by decide) (fun h1 => ?_) (fun h1 => ?_)
    · refine Rn.iconst (v := (nI 0)) dX10_isWord_59 rfl ?_
      refine Rn.istore_n dX10_isWord_60 rfl (by decide) ?_
      refine Rn.iincN dX10_isWord_61 rfl (by decide) ?_
      refine Rn.goto 24 dX10_isWord_64 (by decide) ?_
      refine Rn.iload_n dX10_isWord_24 rfl rfl ?_
      refine Rn.if_eq (tgt := 67) dX10_isWord_25 (by decide) (fun _ => ?_) (fun h9 => absurd h9 (by decide))
      exact k0 (fun z => h1 ((sb_eq hc.1 (by omega)).mpr (z k (by omega)))) _
    · have h1 := (sb_eq hc.1 (by omega)).mp h1
      refine Rn.iconst (v := (nI 1)) dX10_isWord_55 rfl ?_
      refine Rn.goto 60 dX10_isWord_56 (by decide) ?_
      refine Rn.istore_n dX10_isWord_60 rfl (by decide) ?_
      refine Rn.iincN dX10_isWord_61 rfl (by decide) ?_
      refine Rn.goto 24 dX10_isWord_64 (by decide) ?_
      exact ih (k + 1) (by omega) (fun j hj => by by_cases z : j = k; (subst z; exact h1); (exact ha j (by omega)))
theorem cx_isWord (i b : Nat) (hi : i < zsN) (hT : TY I c e) (hb : b ≤ e) (h10 : I 94 10 = nI (lx c e b)) (h12 : I 94 12 = nI b) : Ct G GAM mX10_isWord (d + 4) 0 [.ref 94, .ref (1000 + i)] I (Rv (fun v J => J = I ∧ ((wv c e b ≠ hz i ∧ v = some (.int (nI 0))) ∨ (wv c e b = hz i ∧ v = some (.int (nI 1)) ∧ lx c e b = b + zsLen.getD i 0)))) := by
  have he := hT.1
  have hz8 : zsLen.getD i 0 < 8 := (zsLen_b ⟨i, hi⟩).2
  have hl : lx c e b ≤ e := rn_le hb
  have hg : b ≤ lx c e b := rn_ge
  refine Ct.mk [some (.ref 94), some (.ref (1000 + i)), none, none] ?_
  refine Rn.aload_n dX10_isWord_0 rfl rfl ?_
  refine Rn.getI dX10_isWord_1 fd_X10_89_9 (by first | rfl | exact gC0 (by assumption) | exact gL0 (by assumption)) rfl ?_
  refine Rn.topI (nI (lx c e b)) (by exact h10) ?_
  refine Rn.aload_n dX10_isWord_4 rfl rfl ?_
  refine Rn.getI dX10_isWord_5 fd_X10_99_9 (by first | rfl | exact gC0 (by assumption) | exact gL0 (by assumption)) rfl ?_
  refine Rn.topI (nI b) (by exact h12) ?_
  refine Rn.isub dX10_isWord_8 ?_
  refine Rn.aload_n dX10_isWord_9 rfl rfl ?_
  refine Rn.callVs (As := []) dX10_isWord_10 mv_X10_105 hi rfl rfl (Nat.le_of_ble_eq_true rfl) (ct_length G _ _ i hi) ?_
  refine Rn.icmp_ne (tgt := 20) dX10_isWord_13 (by decide) (fun h1 => ?_) (fun h1 => ?_)
  · refine Rn.iconst (v := (nI 0)) dX10_isWord_20 rfl ?_
    refine Rn.istore_n dX10_isWord_21 rfl (by decide) ?_
    refine Rn.iconst (v := (nI 0)) dX10_isWord_22 rfl ?_
    refine Rn.istore_n dX10_isWord_23 rfl (by decide) ?_
    have hne : wv c e b ≠ hz i := fun z => h1 (by
      have := ((wd_iff hi).mp z).1
      rw [this, ← nI_add, Int32.add_comm, Int32.add_sub_cancel])
    refine Rn.iload_n dX10_isWord_24 rfl rfl ?_
    refine Rn.if_eq (tgt := 67) dX10_isWord_25 (by decide) (fun _ => ?_) (fun h9 => absurd h9 (by decide))
    refine Rn.iload_n dX10_isWord_67 rfl rfl ?_
    exact Rn.zret dX10_isWord_68 rfl rfl (⟨rfl, Or.inl ⟨hne, rfl⟩⟩)
  · have hq : lx c e b = b + zsLen.getD i 0 := by
      have h2 : nI (lx c e b) = nI (b + zsLen.getD i 0) := by
        rw [← nI_add, ← h1, Int32.add_comm, Int32.sub_add_cancel]
      exact (nI_eq (by omega) (by omega)).mp h2
    refine Rn.iconst (v := (nI 1)) dX10_isWord_16 rfl ?_
    refine Rn.goto 21 dX10_isWord_17 (by decide) ?_
    refine Rn.istore_n dX10_isWord_21 rfl (by decide) ?_
    refine Rn.iconst (v := (nI 0)) dX10_isWord_22 rfl ?_
    refine Rn.istore_n dX10_isWord_23 rfl (by decide) ?_
    refine lq_isWord G d I hT i b hi (by omega) h12 (fun ha k => ?_) (fun ha k => ?_) (zsLen.getD i 0) 0 (by omega) (fun j hj => absurd hj (by omega))
    · refine Rn.iload_n dX10_isWord_67 rfl rfl ?_
      exact Rn.zret dX10_isWord_68 rfl rfl (⟨rfl, Or.inr ⟨(wd_iff hi).mpr ⟨hq, ha⟩, rfl, hq⟩⟩)
    · refine Rn.iload_n dX10_isWord_67 rfl rfl ?_
      exact Rn.zret dX10_isWord_68 rfl rfl (⟨rfl, Or.inl ⟨fun z => ha ((wd_iff hi).mp z).2, rfl⟩⟩)
theorem cx_sign (s p : Nat) (hs : s < 128) (hT : TY I c e) (hp : p ≤ e) (h10 : I 94 10 = nI p) : Ct G GAM mX10_sign (d + 2) 0 [.ref 94, .int (nI s)] I (Rv (fun v J => (v = some (.int (nI 0)) ∧ ∃ p', p ≤ p' ∧ p' ≤ e ∧ J = PB I p' p' ∧ p' = bl c e p ∧ fs c e p' ≠ nI s) ∨ (v = some (.int (nI 1)) ∧ ∃ p', p ≤ p' ∧ p' + 1 ≤ e ∧ J = PB I (p' + 1) p' ∧ p' = bl c e p ∧ fs c e p' = nI s ∧ c p' = s))) := by
  have he := hT.1
  refine Ct.mk [some (.ref 94), some (.int (nI s))] ?_
  refine Rn.aload_n dX10_sign_0 rfl rfl ?_
  refine Rn.callV (As := []) dX10_sign_1 mv_X10_102 (by first | rfl | exact gC0 (by assumption) | exact gL0 (by assumption)) rfl rfl rfl (Nat.le_of_ble_eq_true rfl) (cx_blanks G d I p hT hp h10) (fun _ _ h => h) (fun v J h => ?_)
  obtain ⟨rfl, p1, q1, q2, rfl, q3⟩ := h
  refine Rn.aload_n dX10_sign_4 rfl rfl ?_
  refine Rn.iload_n dX10_sign_5 rfl rfl ?_
  refine Rn.iload_n dX10_sign_6 rfl rfl ?_
  refine Rn.callV (As := [_, _]) dX10_sign_7 mv_X10_95 (by first | rfl | exact gC0 (by assumption) | exact gL0 (by assumption)) rfl rfl rfl (Nat.le_of_ble_eq_true rfl) (cx_isAt G (d + 1) _ s s p1 hs hs hT.pb q2 (by rfl)) (fun _ _ h => h) (fun v J h => ?_)
  obtain ⟨rfl, ⟨h4, rfl⟩ | ⟨h4, rfl⟩⟩ := h
  · refine Rn.if_ne (tgt := 15) dX10_sign_10 (by decide) (fun h9 => absurd h9 (by decide)) (fun _ => ?_)
    refine Rn.iconst (v := (nI 0)) dX10_sign_13 rfl ?_
    exact Rn.zret dX10_sign_14 rfl rfl (Or.inl ⟨rfl, p1, q1, q2, rfl, q3, fs_ne (by omega) (fun z => (hT.2.2 p1 z).1) (fun z => h4 ⟨z.1, by omega, by omega⟩)⟩)
  · have h5 : c p1 = s := by omega
    refine Rn.if_ne (tgt := 15) dX10_sign_10 (by decide) (fun _ => ?_) (fun h9 => absurd h9 (by decide))
    refine Rn.aload_n dX10_sign_15 rfl rfl ?_
    refine Rn.dup dX10_sign_16 rfl ?_
    refine Rn.getI dX10_sign_17 fd_X10_89_9 (by first | rfl | exact gC0 (by assumption) | exact gL0 (by assumption)) rfl ?_
    refine Rn.topI (nI p1) (by rfl) ?_
    refine Rn.iconst (v := (nI 1)) dX10_sign_20 rfl ?_
    refine Rn.iadd dX10_sign_21 ?_
    refine Rn.topI (nI (p1 + 1)) (by exact nI_1 p1) ?_
    refine Rn.putI dX10_sign_22 fp_X10_89_9 (by first | rfl | exact gC0 (by assumption) | exact gL0 (by assumption)) rfl ?_
    refine Rn.iconst (v := (nI 1)) dX10_sign_25 rfl ?_
    exact Rn.zret dX10_sign_26 rfl rfl (Or.inr ⟨rfl, p1, q1, by omega, PB_10 _ _ _ _, q3, by rw [fs, if_pos h4.1, h5], h5⟩)
theorem cx_passes (i p : Nat) (hi : i < zsN) (hT : TY I c e) (hp : p ≤ e) (h10 : I 94 10 = nI p) : Ct G GAM mX10_passes (d + 5) 0 [.ref 94, .ref (1000 + i)] I (Rv (fun v J => (v = some (.int (nI 0)) ∧ ∃ p', p ≤ p' ∧ p' ≤ e ∧ J = PB I p' p' ∧ p' = bl c e p ∧ wv c e p' ≠ hz i) ∨ (v = some (.int (nI 1)) ∧ ∃ p' b', p ≤ b' ∧ b' + 2 ≤ p' ∧ p' ≤ e ∧ J = PB I p' b' ∧ b' = bl c e p ∧ wv c e b' = hz i ∧ bl c e p' = nx c e b'))) := by
  have hz2 : 2 ≤ zsLen.getD i 0 := (zsLen_b ⟨i, hi⟩).1
  have he := hT.1
  refine Ct.mk [some (.ref 94), some (.ref (1000 + i))] ?_
  refine Rn.aload_n dX10_passes_0 rfl rfl ?_
  refine Rn.callV (As := []) dX10_passes_1 mv_X10_114 (by first | rfl | exact gC0 (by assumption) | exact gL0 (by assumption)) rfl rfl rfl (Nat.le_of_ble_eq_true rfl) (cx_letters G (d + 2) I p hT hp h10) (fun _ _ h => h) (fun v J h => ?_)
  obtain ⟨rfl, p1, b1, q1, q2, q3, rfl, q4, rfl⟩ := h
  refine Rn.aload_n dX10_passes_4 rfl rfl ?_
  refine Rn.aload_n dX10_passes_5 rfl rfl ?_
  refine Rn.callV (As := [_]) dX10_passes_6 mv_X10_117 (by first | rfl | exact gC0 (by assumption) | exact gL0 (by assumption)) rfl rfl rfl (Nat.le_of_ble_eq_true rfl) (cx_isWord G d _ i b1 hi hT.pb (by omega) (by rfl) (by rfl)) (fun _ _ h => h) (fun v J h => ?_)
  obtain ⟨rfl, ⟨h4, rfl⟩ | ⟨h4, rfl, h5⟩⟩ := h
  · refine Rn.if_eq (tgt := 14) dX10_passes_9 (by decide) (fun _ => ?_) (fun h9 => absurd h9 (by decide))
    refine Rn.aload_n dX10_passes_14 rfl rfl ?_
    refine Rn.aload_n dX10_passes_15 rfl rfl ?_
    refine Rn.getI dX10_passes_16 fd_X10_99_9 (by first | rfl | exact gC0 (by assumption) | exact gL0 (by assumption)) rfl ?_
    refine Rn.topI (nI b1) (by rfl) ?_
    refine Rn.putI dX10_passes_19 fp_X10_89_9 (by first | rfl | exact gC0 (by assumption) | exact gL0 (by assumption)) rfl ?_
    refine Rn.iconst (v := (nI 0)) dX10_passes_22 rfl ?_
    exact Rn.zret dX10_passes_23 rfl rfl (Or.inl ⟨rfl, b1, q1, by omega, PB_10 _ _ _ _, q4, h4⟩)
  · refine Rn.if_eq (tgt := 14) dX10_passes_9 (by decide) (fun h9 => absurd h9 (by decide)) (fun _ => ?_)
    refine Rn.iconst (v := (nI 1)) dX10_passes_12 rfl ?_
    exact Rn.zret dX10_passes_13 rfl rfl (Or.inr ⟨rfl, lx c e b1, b1, q1, by omega, q3, rfl, q4, h4, (nx_w (by omega)).symm⟩)
theorem lq_number {kx : Kx} {bb : Nat} (hT : TY I c e) (b1 : Nat) (x1 x2 : Option Value) (kk : ∀ (v : Int32), (dx c e b1 ≤ b1 + 3 → v = nI (nv c b1 (dx c e b1 - b1))) → Rn G GAM mX10_number kx (d + 2) bb 65 [some (.ref 94), x1, x2, some (.int v)] [] (PB I (dx c e b1) b1)) : ∀ (m k : Nat) (v : Int32), e ≤ b1 + k + m → b1 + k ≤ e → dx c e b1 = dx c e (b1 + k) → (k ≤ 3 → v = nI (nv c b1 k)) → Rn G GAM mX10_number kx (d + 2) bb 6 [some (.ref 94), x1, x2, some (.int v)] [] (PB I (b1 + k) b1) := by
  have he := hT.1
  intro m
  induction m with
  | zero =>
    intro k v h1 h2 h3 h5
    refine Rn.aload_n dX10_number_6 rfl rfl ?_
    refine Rn.bipush (v := (nI 48)) dX10_number_7 rfl ?_
    refine Rn.bipush (v := (nI 57)) dX10_number_9 rfl ?_
    refine Rn.callV (As := [_, _]) dX10_number_11 mv_X10_95 (by first | rfl | exact gC0 (by assumption) | exact gL0 (by assumption)) rfl rfl rfl (Nat.le_of_ble_eq_true rfl) (cx_isAt G (d + 1) _ 48 57 (b1 + k) (by decide) (by decide) hT.pb h2 (by rfl)) (fun _ _ h => h) (fun v J h => ?_)
    obtain ⟨rfl, ⟨h4, rfl⟩ | ⟨h4, rfl⟩⟩ := h
    · have h3 : dx c e b1 = b1 + k := h3.trans (rn_out (p := b1 + k) (fun z y => h4 ⟨z, y⟩))
      refine Rn.if_eq (tgt := 65) dX10_number_14 (by decide) (fun _ => ?_) (fun h9 => absurd h9 (by decide))
      have h6 := kk v (fun z => by rw [show dx c e b1 - b1 = k by omega]; exact h5 (by omega))
      rw [h3] at h6
      exact h6
    · exact absurd h4.1 (by omega)
  | succ m ih =>
    intro k v h1 h2 h3 h5
    refine Rn.aload_n dX10_number_6 rfl rfl ?_
    refine Rn.bipush (v := (nI 48)) dX10_number_7 rfl ?_
    refine Rn.bipush (v := (nI 57)) dX10_number_9 rfl ?_
    refine Rn.callV (As := [_, _]) dX10_number_11 mv_X10_95 (by first | rfl | exact gC0 (by assumption) | exact gL0 (by assumption)) rfl rfl rfl (Nat.le_of_ble_eq_true rfl) (cx_isAt G (d + 1) _ 48 57 (b1 + k) (by decide) (by decide) hT.pb h2 (by rfl)) (fun _ _ h => h) (fun v J h => ?_)
    obtain ⟨rfl, ⟨h4, rfl⟩ | ⟨h4, rfl⟩⟩ := h
    · have h3 : dx c e b1 = b1 + k := h3.trans (rn_out (p := b1 + k) (fun z y => h4 ⟨z, y⟩))
      refine Rn.if_eq (tgt := 65) dX10_number_14 (by decide) (fun _ => ?_) (fun h9 => absurd h9 (by decide))
      have h6 := kk v (fun z => by rw [show dx c e b1 - b1 = k by omega]; exact h5 (by omega))
      rw [h3] at h6
      exact h6
    · have hc := hT.2.2 (b1 + k) h4.1
      have h3 : dx c e b1 = dx c e (b1 + (k + 1)) := h3.trans (rn_in (p := b1 + k) h4.1 h4.2)
      refine Rn.if_eq (tgt := 65) dX10_number_14 (by decide) (fun h9 => absurd h9 (by decide)) (fun _ => ?_)
      refine Rn.aload_n dX10_number_17 rfl rfl ?_
      refine Rn.getI dX10_number_18 fd_X10_89_9 (by first | rfl | exact gC0 (by assumption) | exact gL0 (by assumption)) rfl ?_
      refine Rn.topI (nI (b1 + k)) (by rfl) ?_
      refine Rn.aload_n dX10_number_21 rfl rfl ?_
      refine Rn.getI dX10_number_22 fd_X10_99_9 (by first | rfl | exact gC0 (by assumption) | exact gL0 (by assumption)) rfl ?_
      refine Rn.topI (nI b1) (by rfl) ?_
      refine Rn.isub dX10_number_25 ?_
      refine Rn.topI (nI k) (by rw [← nI_add, Int32.add_comm, Int32.add_sub_cancel]) ?_
      refine Rn.iconst (v := (nI 3)) dX10_number_26 rfl ?_
      refine Rn.icmp_geN dX10_number_27 50 (fun h7 => ?_) (fun h7 => ?_)
      · refine Rn.iload_n dX10_number_50 rfl rfl ?_
        refine Rn.istore_n dX10_number_51 rfl (by decide) ?_
        refine Rn.aload_n dX10_number_52 rfl rfl ?_
        refine Rn.dup dX10_number_53 rfl ?_
        refine Rn.getI dX10_number_54 fd_X10_89_9 (by first | rfl | exact gC0 (by assumption) | exact gL0 (by assumption)) rfl ?_
        refine Rn.topI (nI (b1 + k)) (by rfl) ?_
        refine Rn.iconst (v := (nI 1)) dX10_number_57 rfl ?_
        refine Rn.iadd dX10_number_58 ?_
        refine Rn.topI (nI (b1 + k + 1)) (by exact nI_1 _) ?_
        refine Rn.putI dX10_number_59 fp_X10_89_9 (by first | rfl | exact gC0 (by assumption) | exact gL0 (by assumption)) rfl ?_
        refine Rn.goto 6 dX10_number_62 (by decide) ?_
        exact Rn.hpp _ (PB_10 _ _ _ _) (ih (k + 1) _ (by omega) (by omega) h3 (fun z => absurd z (by omega)))
      · have h8 := h5 (by omega)
        subst h8
        refine Rn.bipush (v := (nI 10)) dX10_number_30 rfl ?_
        refine Rn.iload_n dX10_number_32 rfl rfl ?_
        refine Rn.imul dX10_number_33 ?_
        refine Rn.topI (nI (10 * nv c b1 k)) (by exact pk_mul _ _) ?_
        refine Rn.aload_n dX10_number_34 rfl rfl ?_
        refine Rn.getR dX10_number_35 fd_X10_29_9 (by first | rfl | exact gC0 (by assumption) | exact gL0 (by assumption)) rfl ?_
        refine Rn.aload_n dX10_number_38 rfl rfl ?_
        refine Rn.getI dX10_number_39 fd_X10_89_9 (by first | rfl | exact gC0 (by assumption) | exact gL0 (by assumption)) rfl ?_
        refine Rn.topI (nI (b1 + k)) (by rfl) ?_
        refine Rn.baldN dX10_number_42 (by first | rfl | exact gC1 (by assumption) | exact gC2 (by assumption) | exact gC3 (by assumption) | exact gL1 (by assumption) | exact gL2 (by assumption) | exact gL3 (by assumption) | exact gL4 (by assumption) | exact gL5 (by assumption) | exact gL6 (by assumption)) ?_
        refine Rn.topI (nI (c (b1 + k))) (by rw [← sb_n (show c (b1 + k) < 128 by omega)]; exact hc.2) ?_
        refine Rn.iadd dX10_number_43 ?_
        refine Rn.topI (nI (10 * nv c b1 k + c (b1 + k))) (by exact nI_add _ _) ?_
        refine Rn.bipush (v := (nI 48)) dX10_number_44 rfl ?_
        refine Rn.isub dX10_number_46 ?_
        refine Rn.topI (nI (nv c b1 (k + 1))) (by exact (pk_sub (by omega)).trans (congrArg nI (by show _ = 10 * nv c b1 k + (c (b1 + k) - 48); omega))) ?_
        refine Rn.goto 51 dX10_number_47 (by decide) ?_
        refine Rn.istore_n dX10_number_51 rfl (by decide) ?_
        refine Rn.aload_n dX10_number_52 rfl rfl ?_
        refine Rn.dup dX10_number_53 rfl ?_
        refine Rn.getI dX10_number_54 fd_X10_89_9 (by first | rfl | exact gC0 (by assumption) | exact gL0 (by assumption)) rfl ?_
        refine Rn.topI (nI (b1 + k)) (by rfl) ?_
        refine Rn.iconst (v := (nI 1)) dX10_number_57 rfl ?_
        refine Rn.iadd dX10_number_58 ?_
        refine Rn.topI (nI (b1 + k + 1)) (by exact nI_1 _) ?_
        refine Rn.putI dX10_number_59 fp_X10_89_9 (by first | rfl | exact gC0 (by assumption) | exact gL0 (by assumption)) rfl ?_
        refine Rn.goto 6 dX10_number_62 (by decide) ?_
        exact Rn.hpp _ (PB_10 _ _ _ _) (ih (k + 1) _ (by omega) (by omega) h3 (fun z => rfl))
theorem cx_number (hi p : Nat) (hh : hi < 1000) (hT : TY I c e) (hp : p ≤ e) (h10 : I 94 10 = nI p) : Ct G GAM mX10_number (d + 2) 0 [.ref 94, .int (nI 0), .int (nI hi)] I (Rv (fun v J => ∃ p' b', p ≤ b' ∧ b' ≤ p' ∧ p' ≤ e ∧ J = PB I p' b' ∧ b' = bl c e p ∧ ((v = some (.int (-1)) ∧ (tn c e b' = -1 ∨ nI hi < tn c e b')) ∨ (∃ x, v = some (.int x) ∧ b' < p' ∧ nI 0 ≤ x ∧ x ≤ nI hi ∧ tn c e b' = x ∧ tn c e b' ≠ -1 ∧ bl c e p' = nx c e b')))) := by
  have he := hT.1
  refine Ct.mk [some (.ref 94), some (.int (nI 0)), some (.int (nI hi)), none] ?_
  refine Rn.aload_n dX10_number_0 rfl rfl ?_
  refine Rn.callV (As := []) dX10_number_1 mv_X10_102 (by first | rfl | exact gC0 (by assumption) | exact gL0 (by assumption)) rfl rfl rfl (Nat.le_of_ble_eq_true rfl) (cx_blanks G d I p hT hp h10) (fun _ _ h => h) (fun v J h => ?_)
  obtain ⟨rfl, p1, q1, q2, rfl, q3⟩ := h
  refine Rn.iconst (v := (nI 0)) dX10_number_4 rfl ?_
  refine Rn.istore_n dX10_number_5 rfl (by decide) ?_
  refine lq_number G d I hT p1 _ _ (fun v hv => ?_) e 0 _ (by omega) (by omega) rfl (fun _ => rfl)
  have h1 : p1 ≤ dx c e p1 := rn_ge
  have h2 : dx c e p1 ≤ e := rn_le q2
  have hd : ∀ i, p1 ≤ i → i < dx c e p1 → 48 ≤ c i ∧ c i ≤ 57 := fun i a b => rn_all (e := e) (p := p1) a b
  have hlx : p1 < dx c e p1 → lx c e p1 = p1 := fun z => rn_out (fun _ y => by have := hd p1 (by omega) z; omega)
  refine Rn.aload_n dX10_number_65 rfl rfl ?_
  refine Rn.getI dX10_number_66 fd_X10_89_9 (by first | rfl | exact gC0 (by assumption) | exact gL0 (by assumption)) rfl ?_
  refine Rn.topI (nI (dx c e p1)) (by rfl) ?_
  refine Rn.aload_n dX10_number_69 rfl rfl ?_
  refine Rn.getI dX10_number_70 fd_X10_99_9 (by first | rfl | exact gC0 (by assumption) | exact gL0 (by assumption)) rfl ?_
  refine Rn.topI (nI p1) (by rfl) ?_
  refine Rn.icmp_eqN dX10_number_73 99 (fun h3 => ?_) (fun h3 => ?_)
  · refine Rn.iconst (v := (-1)) dX10_number_99 rfl ?_
    refine Rn.goto 104 dX10_number_100 (by decide) ?_
    exact Rn.iret dX10_number_104 rfl (⟨dx c e p1, p1, q1, h1, h2, rfl, q3, Or.inl ⟨rfl, Or.inl (tn_0 (by omega))⟩⟩)
  · refine Rn.aload_n dX10_number_76 rfl rfl ?_
    refine Rn.getI dX10_number_77 fd_X10_89_9 (by first | rfl | exact gC0 (by assumption) | exact gL0 (by assumption)) rfl ?_
    refine Rn.topI (nI (dx c e p1)) (by rfl) ?_
    refine Rn.aload_n dX10_number_80 rfl rfl ?_
    refine Rn.getI dX10_number_81 fd_X10_99_9 (by first | rfl | exact gC0 (by assumption) | exact gL0 (by assumption)) rfl ?_
    refine Rn.topI (nI p1) (by rfl) ?_
    refine Rn.isub dX10_number_84 ?_
    refine Rn.topI (nI (dx c e p1 - p1)) (by exact pk_sub h1) ?_
    refine Rn.iconst (v := (nI 3)) dX10_number_85 rfl ?_
    refine Rn.icmp_gtN dX10_number_86 99 (fun h4 => ?_) (fun h4 => ?_)
    · have ht : tn c e p1 = -1 := by
        rw [tn, if_pos (hlx (by omega)), tnK, if_neg (by omega)]
      refine Rn.iconst (v := (-1)) dX10_number_99 rfl ?_
      refine Rn.goto 104 dX10_number_100 (by decide) ?_
      exact Rn.iret dX10_number_104 rfl (⟨dx c e p1, p1, q1, h1, h2, rfl, q3, Or.inl ⟨rfl, Or.inl ht⟩⟩)
    · have hv := hv (by omega)
      have hb := nv_b (c := c) (q := p1) (k := dx c e p1 - p1) (fun i a b => hd i a (by omega)) (by omega)
      have ht : tn c e p1 = nI (nv c p1 (dx c e p1 - p1)) := by
        rw [tn, if_pos (hlx (by omega)), tnK, if_pos (by omega)]
      rw [← ht] at hv
      subst hv
      have h0 : ¬ tn c e p1 < nI 0 := by
        rw [ht]
        intro z
        have z := Int32.lt_iff_toInt_lt.mp z
        rw [nI_toInt (by omega), nI_toInt (by omega)] at z
        omega
      have hm : tn c e p1 ≠ -1 := by
        rw [ht]
        exact fun z => neg1_ne (by omega) z.symm
      refine Rn.iload_n dX10_number_89 rfl rfl ?_
      refine Rn.iload_n dX10_number_90 rfl rfl ?_
      refine Rn.icmp_lt (tgt := 99) dX10_number_91 (by decide) (fun h5 => ?_) (fun h5 => ?_)
      · exact absurd h5 h0
      · refine Rn.iload_n dX10_number_94 rfl rfl ?_
        refine Rn.iload_n dX10_number_95 rfl rfl ?_
        refine Rn.icmp_le (tgt := 103) dX10_number_96 (by decide) (fun h6 => ?_) (fun h6 => ?_)
        · refine Rn.iload_n dX10_number_103 rfl rfl ?_
          exact Rn.iret dX10_number_104 rfl (⟨dx c e p1, p1, q1, h1, h2, rfl, q3, Or.inr ⟨tn c e p1, rfl, by omega, Int32.not_lt.mp h0, h6, rfl, hm, (nx_d (hlx (by omega)) (by omega)).symm⟩⟩)
        · refine Rn.iconst (v := (-1)) dX10_number_99 rfl ?_
          refine Rn.goto 104 dX10_number_100 (by decide) ?_
          exact Rn.iret dX10_number_104 rfl (⟨dx c e p1, p1, q1, h1, h2, rfl, q3, Or.inl ⟨rfl, Or.inr (Int32.not_le.mp h6)⟩⟩)
end LexY
