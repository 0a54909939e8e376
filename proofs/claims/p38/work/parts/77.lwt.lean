theorem dX10_readAll_0 : decode cX10_readAll 0 = .ok (.aload_n 0, 1) := by decide +kernel
theorem dX10_readAll_1 : decode cX10_readAll 1 = .ok (.invokevirtual 230, 3) := by decide +kernel
theorem dX10_readAll_4 : decode cX10_readAll 4 = .ok (.aload_n 0, 1) := by decide +kernel
theorem dX10_readAll_5 : decode cX10_readAll 5 = .ok (.iconst 0, 1) := by decide +kernel
theorem dX10_readAll_6 : decode cX10_readAll 6 = .ok (.putfield 168, 3) := by decide +kernel
theorem dX10_readAll_9 : decode cX10_readAll 9 = .ok (.aload_n 0, 1) := by decide +kernel
theorem dX10_readAll_10 : decode cX10_readAll 10 = .ok (.invokevirtual 102, 3) := by decide +kernel
theorem dX10_readAll_13 : decode cX10_readAll 13 = .ok (.aload_n 0, 1) := by decide +kernel
theorem dX10_readAll_14 : decode cX10_readAll 14 = .ok (.getfield 89, 3) := by decide +kernel
theorem dX10_readAll_17 : decode cX10_readAll 17 = .ok (.aload_n 0, 1) := by decide +kernel
theorem dX10_readAll_18 : decode cX10_readAll 18 = .ok (.getfield 92, 3) := by decide +kernel
theorem dX10_readAll_21 : decode cX10_readAll 21 = .ok (.if_icmp .ne 5, 3) := by decide +kernel
theorem dX10_readAll_26 : decode cX10_readAll 26 = .ok (.iconst 0, 1) := by decide +kernel
theorem dX10_readAll_27 : decode cX10_readAll 27 = .ok (.istore_n 2, 1) := by decide +kernel
theorem dX10_readAll_24 : decode cX10_readAll 24 = .ok (.iconst 0, 1) := by decide +kernel
theorem dX10_readAll_25 : decode cX10_readAll 25 = .ok (.ireturn, 1) := by decide +kernel
theorem dX10_law_52 : decode cX10_law 52 = .ok (.iload_n 2, 1) := by decide +kernel
theorem dX10_law_53 : decode cX10_law 53 = .ok (.sipush 849, 3) := by decide +kernel
theorem dX10_law_56 : decode cX10_law 56 = .ok (.if_icmp .ge 29, 3) := by decide +kernel
theorem dX10_law_59 : decode cX10_law 59 = .ok (.aload_n 0, 1) := by decide +kernel
theorem dX10_law_60 : decode cX10_law 60 = .ok (.getfield 13, 3) := by decide +kernel
theorem dX10_law_63 : decode cX10_law 63 = .ok (.sipush 377, 3) := by decide +kernel
theorem dX10_law_66 : decode cX10_law 66 = .ok (.iload_n 2, 1) := by decide +kernel
theorem dX10_law_67 : decode cX10_law 67 = .ok (.iadd, 1) := by decide +kernel
theorem dX10_law_68 : decode cX10_law 68 = .ok (.aload_n 0, 1) := by decide +kernel
theorem dX10_law_69 : decode cX10_law 69 = .ok (.getfield 13, 3) := by decide +kernel
theorem dX10_law_72 : decode cX10_law 72 = .ok (.sipush 1226, 3) := by decide +kernel
theorem dX10_law_75 : decode cX10_law 75 = .ok (.iload_n 2, 1) := by decide +kernel
theorem dX10_law_76 : decode cX10_law 76 = .ok (.iadd, 1) := by decide +kernel
theorem dX10_law_77 : decode cX10_law 77 = .ok (.iaload, 1) := by decide +kernel
theorem dX10_law_78 : decode cX10_law 78 = .ok (.iastore, 1) := by decide +kernel
theorem dX10_law_79 : decode cX10_law 79 = .ok (.iinc 2 1, 3) := by decide +kernel
theorem dX10_law_82 : decode cX10_law 82 = .ok (.goto (-30), 3) := by decide +kernel
theorem dX10_law_0 : decode cX10_law 0 = .ok (.aload_n 0, 1) := by decide +kernel
theorem dX10_law_1 : decode cX10_law 1 = .ok (.iconst 0, 1) := by decide +kernel
theorem dX10_law_2 : decode cX10_law 2 = .ok (.invokevirtual 237, 3) := by decide +kernel
theorem dX10_law_5 : decode cX10_law 5 = .ok (.istore_n 1, 1) := by decide +kernel
theorem dX10_law_6 : decode cX10_law 6 = .ok (.aload_n 0, 1) := by decide +kernel
theorem dX10_law_7 : decode cX10_law 7 = .ok (.iload_n 1, 1) := by decide +kernel
theorem dX10_law_8 : decode cX10_law 8 = .ok (.ifCond .ge 10, 3) := by decide +kernel
theorem dX10_law_11 : decode cX10_law 11 = .ok (.aload_n 0, 1) := by decide +kernel
theorem dX10_law_12 : decode cX10_law 12 = .ok (.getfield 99, 3) := by decide +kernel
theorem dX10_law_15 : decode cX10_law 15 = .ok (.goto 4, 3) := by decide +kernel
theorem dX10_law_19 : decode cX10_law 19 = .ok (.putfield 33, 3) := by decide +kernel
theorem dX10_law_22 : decode cX10_law 22 = .ok (.aload_n 0, 1) := by decide +kernel
theorem dX10_law_23 : decode cX10_law 23 = .ok (.iload_n 1, 1) := by decide +kernel
theorem dX10_law_24 : decode cX10_law 24 = .ok (.ifCond .ge 7, 3) := by decide +kernel
theorem dX10_law_27 : decode cX10_law 27 = .ok (.iconst 1, 1) := by decide +kernel
theorem dX10_law_28 : decode cX10_law 28 = .ok (.goto 4, 3) := by decide +kernel
theorem dX10_law_32 : decode cX10_law 32 = .ok (.iconst 1, 1) := by decide +kernel
theorem dX10_law_33 : decode cX10_law 33 = .ok (.invokevirtual 241, 3) := by decide +kernel
theorem dX10_law_36 : decode cX10_law 36 = .ok (.ifCond .eq 5, 3) := by decide +kernel
theorem dX10_law_39 : decode cX10_law 39 = .ok (.iconst 0, 1) := by decide +kernel
theorem dX10_law_40 : decode cX10_law 40 = .ok (.ireturn, 1) := by decide +kernel
theorem dX10_law_18 : decode cX10_law 18 = .ok (.iconst (-1), 1) := by decide +kernel
theorem dX10_law_31 : decode cX10_law 31 = .ok (.iconst 0, 1) := by decide +kernel
theorem dX10_law_41 : decode cX10_law 41 = .ok (.aload_n 0, 1) := by decide +kernel
theorem dX10_law_42 : decode cX10_law 42 = .ok (.getfield 13, 3) := by decide +kernel
theorem dX10_law_45 : decode cX10_law 45 = .ok (.sipush 1226, 3) := by decide +kernel
theorem dX10_law_48 : decode cX10_law 48 = .ok (.iload_n 1, 1) := by decide +kernel
theorem dX10_law_49 : decode cX10_law 49 = .ok (.iastore, 1) := by decide +kernel
theorem dX10_law_50 : decode cX10_law 50 = .ok (.iconst 0, 1) := by decide +kernel
theorem dX10_law_51 : decode cX10_law 51 = .ok (.istore_n 2, 1) := by decide +kernel
theorem dX10_law_85 : decode cX10_law 85 = .ok (.aload_n 0, 1) := by decide +kernel
theorem dX10_law_86 : decode cX10_law 86 = .ok (.getfield 13, 3) := by decide +kernel
theorem dX10_law_89 : decode cX10_law 89 = .ok (.iconst 3, 1) := by decide +kernel
theorem dX10_law_90 : decode cX10_law 90 = .ok (.iconst 1, 1) := by decide +kernel
theorem dX10_law_91 : decode cX10_law 91 = .ok (.iastore, 1) := by decide +kernel
theorem dX10_law_92 : decode cX10_law 92 = .ok (.aload_n 0, 1) := by decide +kernel
theorem dX10_law_93 : decode cX10_law 93 = .ok (.iconst 0, 1) := by decide +kernel
theorem dX10_law_94 : decode cX10_law 94 = .ok (.putfield 58, 3) := by decide +kernel
theorem dX10_law_97 : decode cX10_law 97 = .ok (.iload_n 1, 1) := by decide +kernel
theorem dX10_law_98 : decode cX10_law 98 = .ok (.ireturn, 1) := by decide +kernel
/-! law of the reference -/
theorem PS_self {H : Hi} {p b q s : Nat} (h10 : H 94 10 = nI p) (h12 : H 94 12 = nI b) (h13 : H 94 13 = nI q) (h16 : H 94 16 = nI s) : PS H p b q s (H 95) = H := by
  have e : PA (H 94) p b q s = H 94 := by
    funext j
    simp only [PA]
    by_cases e1 : j = 10
    · rw [if_pos e1, e1, h10]
    · rw [if_neg e1]
      by_cases e2 : j = 12
      · rw [if_pos e2, e2, h12]
      · rw [if_neg e2]
        by_cases e3 : j = 13
        · rw [if_pos e3, e3, h13]
        · rw [if_neg e3]
          by_cases e4 : j = 16
          · rw [if_pos e4, e4, h16]
          · rw [if_neg e4]
  unfold PS
  rw [e, zset_self, zset_self]
theorem anyN (x : Int32) : ∃ q, x = nI q := by
  refine ⟨x.toBitVec.toNat, ?_⟩
  apply Int32.toBitVec_inj.mp
  show _ = BitVec.ofNat 32 _
  rw [BitVec.ofNat_toNat]; simp
def HI (I : Hi) : Hi := zup (zup (zup (zup (zup I 94 0 (nI 0)) 94 11 (I 94 9)) 94 9 (nI 0)) 94 10 (nI 0)) 94 16 (nI 0)
def HA (I : Hi) : Nat → Int32 := upd (upd (upd (upd (upd (I 94) 0 (nI 0)) 11 (I 94 9)) 9 (nI 0)) 10 (nI 0)) 16 (nI 0)
theorem HI_A (I : Hi) : HI I = zset I 94 (HA I) := by
  unfold HI HA
  rw [show zup I 94 0 (nI 0) = zset I 94 (upd (I 94) 0 (nI 0)) from rfl, zup_zset, zup_zset, zup_zset, zup_zset]
theorem PS_HI (I : Hi) (p b q s : Nat) (V : Nat → Int32) : PS (HI I) p b q s V = zset (zset I 94 (PA (HA I) p b q s)) 95 V := by
  unfold PS
  rw [HI_A, zset_at, zset_zset]
theorem box94 {A : Nat → Int32} (h6 : inIv (0, 1) (A 6)) (h7 : inIv (0, 12) (A 7)) (h9 : inIv (0, 400) (A 9)) (h10 : inIv (0, 400) (A 10)) (h11 : inIv (0, 400) (A 11)) (h12 : inIv (0, 400) (A 12)) : ∀ j, inIv (hxB 94 j) (A j) := by
  intro j
  unfold hxB
  rw [if_neg (by decide), if_pos rfl]
  split
  · rename_i e; rw [e]; exact h6
  · split
    · rename_i e; rw [e]; exact h7
    · split
      · rename_i e; rw [e]; exact h9
      · split
        · rename_i e; rw [e]; exact h11
        · split
          · rename_i e; rw [e]; exact h10
          · split
            · rename_i e; rw [e]; exact h12
            · exact inIv_F _
theorem box95 {W : Nat → Int32} (h : ∀ j, j < 377 → inIv (wbx j) (W j)) : ∀ j, inIv (hxB 95 j) (W j) := by
  intro j
  rw [hxB_w (by decide) (by decide)]
  split
  · rename_i e; exact h j e
  · exact inIv_F _
theorem LQ_of {I : Hi} {A W : Nat → Int32} {v : Int32} (hB : BX I) (hX : XM I) (hA : ∀ j, inIv (hxB 94 j) (A j)) (h6 : A 6 = I 94 6) (h9 : A 9 = nI 0) (hW : ∀ j, j < 377 → inIv (wbx j) (W j)) (hL : LawX W) : LQ I (nI 0) (.inl (some (.int v))) (zset (zset I 94 A) 95 W) :=
  ⟨⟨v, rfl⟩, BX.set (BX.set hB hA) (box95 hW), ⟨by rw [zset_at]; exact hL, by rw [zset_ne _ _ (by decide), zset_ne _ _ (by decide)]; exact hX.2⟩, by rw [zset_ne _ _ (by decide), zset_at]; exact h6, by rw [zset_ne _ _ (by decide), zset_at]; exact h9, fun c hc => by rw [zset_ne _ _ (by omega), zset_ne _ _ (by omega)]⟩
def cpL (V : Nat → Int32) (k : Nat) : Nat → Int32 := fun j => if 377 ≤ j ∧ j < 377 + k then V (j + 849) else V j
theorem cpL_upd (V : Nat → Int32) (k : Nat) (hk : k < 849) : upd (cpL V k) (377 + k) (cpL V k (1226 + k)) = cpL V (k + 1) := by
  funext j
  simp only [upd, cpL]
  by_cases e : j = 377 + k
  · subst e
    rw [if_pos rfl, if_neg (by omega), if_pos (by omega)]
    congr 1
    omega
  · rw [if_neg e]
    by_cases q : 377 ≤ j ∧ j < 377 + k
    · rw [if_pos q, if_pos (by omega)]
    · rw [if_neg q, if_neg (by omega)]
theorem cpL_0 (V : Nat → Int32) : cpL V 0 = V := by
  funext j
  simp only [cpL]
  exact if_neg (by omega)
theorem LawX_of {V W : Nat → Int32} {n s : Nat} (hn : n ≤ 12) (hs : s ≤ 400) (hL : LN V n s) (hW : ∀ k, k < 849 → W (377 + k) = upd V 1226 (nI n) (1226 + k)) : LawX W := by
  have hw : ∀ j, 1226 < j → j < 2075 → W (j - 849) = V j := fun j h1 h2 => by
    have := hW (j - 1226) (by omega)
    rw [show 377 + (j - 1226) = j - 849 by omega, show 1226 + (j - 1226) = j by omega, upd_ne _ _ (by omega)] at this
    exact this
  refine ⟨opV V, fun m => (V (1229 + 4 * m)).toInt.toNat, fun m => (V (1230 + 4 * m)).toInt.toNat, n, ⟨hn, ?_, fun m hm => ?_⟩, fun m hm => ?_⟩
  · have := hW 0 (by decide)
    rw [upd_at] at this
    exact this
  · obtain ⟨bg, en, ⟨a1, a2, a3, a4⟩, a5, a6⟩ := hL.1 m hm
    have b1 : (V (1229 + 4 * m)).toInt.toNat = bg := by rw [a2, nI_toInt (by omega)]; exact Int.toNat_natCast bg
    have b2 : (V (1230 + 4 * m)).toInt.toNat = en := by rw [a3, nI_toInt (by omega)]; exact Int.toNat_natCast en
    simp only [b1, b2]
    refine ⟨?_, ?_, a5, by omega, ?_, fun i hi => ?_⟩
    · have := hw (1229 + 4 * m) (by omega) (by omega)
      rw [show 1229 + 4 * m - 849 = 378 + 4 * m + 2 by omega] at this
      rw [this, a2]
    · have := hw (1230 + 4 * m) (by omega) (by omega)
      rw [show 1230 + 4 * m - 849 = 378 + 4 * m + 3 by omega] at this
      rw [this, a3]
    · rcases a4 with e | g
      · subst e
        rw [Nat.sub_self]
        trivial
      · exact (g.2.2 0 (by omega)).ok
    · have := hw (1275 + 2 * i) (by omega) (by omega)
      rw [show 1275 + 2 * i - 849 = 426 + 2 * i by omega] at this
      rw [this]
      exact hL.2 i (by omega)
  · obtain ⟨bg, en, ⟨a1, a2, a3, a4⟩, a5, a6⟩ := hL.1 m hm
    have := hw (1228 + 4 * m) (by omega) (by omega)
    rw [show 1228 + 4 * m - 849 = 378 + 4 * m + 1 by omega] at this
    rw [this]
    exact a1
/-- what law of the reference leaves: its answer and what it throws, by the text -/
def LQ5 (I : Hi) (g : Go) (o : Rs) (J : Hi) : Prop := LQ I (nI 0) o J ∧ (∀ c, c ≠ 94 → c ≠ 95 → J c = I c) ∧ (∀ j, j < 377 → j ≠ 3 → J 95 j = I 95 j) ∧ ((∃ n, n ≤ 12 ∧ g = .inr n ∧ o = .inl (some (.int (nI n))) ∧ J 94 0 = nI 0 ∧ J 94 14 = -1 ∧ J 94 7 = nI 0) ∨ (∃ x, x ≤ 400 ∧ g = .inl x ∧ J 94 0 = nI 1 ∧ J 94 14 = nI x ∧ J 94 7 = I 94 7))
section LawT
variable (G : Gx) (d : Nat) (I : Hi) {c : Nat → Nat} {e : Nat}
theorem ct_readAllL (hT : e ≤ 400 ∧ I 94 9 = nI e ∧ ∀ i, i < e → c i < 256 ∧ I 100 i = sb (c i)) (hB : BX I) : Ct G GAM mX10_readAll (d + 32) 0 [.ref 94, .int (nI 0)] I (Rv (RA e (HI I) (I 95) (gLaw c e))) := by
  have he := hT.1
  have hT2 : TY (HI I) c e := ⟨hT.1, hT.2.1, hT.2.2⟩
  refine Ct.mk [some (.ref 94), some (.int (nI 0)), none] ?_
  obtain ⟨b, hb, h12⟩ := nI_iv (n := 400) (show inIv (0, 400) (I 94 12) from hB 94 12)
  obtain ⟨q, h13⟩ := anyN (I 94 13)
  refine Rn.aload_n dX10_readAll_0 rfl rfl ?_
  refine Rn.callVp (As := []) dX10_readAll_1 mv_X10_230 (by first | rfl | exact gC0 (by assumption) | exact gL0 (by assumption)) rfl rfl rfl (Nat.le_of_ble_eq_true rfl) (ct_uses G _ _) ?_
  refine Rn.aload_n dX10_readAll_4 rfl rfl ?_
  refine Rn.iconst (v := (nI 0)) dX10_readAll_5 rfl ?_
  refine Rn.putI dX10_readAll_6 fp_X10_168_9 (by first | rfl | exact gC0 (by assumption) | exact gL0 (by assumption)) rfl ?_
  refine Rn.hpp (PS (HI I) 0 b q 0 (I 95)) ((PS_self (H := HI I) (by rfl) (by exact h12) (by exact h13) (by rfl)).symm) ?_
  refine Rn.aload_n dX10_readAll_9 rfl rfl ?_
  refine Rn.callV (As := []) dX10_readAll_10 mv_X10_102 (by first | rfl | exact gC0 (by assumption) | exact gL0 (by assumption)) rfl rfl rfl (Nat.le_of_ble_eq_true rfl) (cx_blanks G (d + 30) (PS (HI I) 0 b q 0 (I 95)) 0 hT2.ps (by omega) (by rfl)) (fun _ _ h => h) (fun v J h => ?_)
  obtain ⟨rfl, p1, q1, q2, rfl, q3⟩ := h
  refine Rn.hpp _ (PS_PB _ _ _ _ _ _ _ _) ?_
  refine Rn.aload_n dX10_readAll_13 rfl rfl ?_
  refine Rn.getI dX10_readAll_14 fd_X10_89_9 (by first | rfl | exact gC0 (by assumption) | exact gL0 (by assumption)) rfl ?_
  refine Rn.topI (nI p1) (by rfl) ?_
  refine Rn.aload_n dX10_readAll_17 rfl rfl ?_
  refine Rn.getI dX10_readAll_18 fd_X10_92_9 (by first | rfl | exact gC0 (by assumption) | exact gL0 (by assumption)) rfl ?_
  refine Rn.topI (nI e) (by exact hT.2.1) ?_
  refine Rn.icmp_neN dX10_readAll_21 26 (fun h1 => ?_) (fun h1 => ?_)
  · have ho : gLaw c e = gText c e (gLine c e) 12 0 p1 := by
      unfold gLaw
      rw [← q3, if_neg (by omega)]
    rw [ho]
    refine Rn.iconst (v := (nI 0)) dX10_readAll_26 rfl ?_
    refine Rn.istore_n dX10_readAll_27 rfl (by decide) ?_
    exact lp_readAll G d (HI I) (I 95) hT2 _ 12 0 p1 p1 q 0 (I 95) p1 rfl (by rw [q3, bl_bl]) rfl q2 q2 (Nat.zero_le _) ⟨fun m h => absurd h (by omega), fun i h => absurd h (by omega)⟩ (fun _ _ => rfl)
  · have ho : gLaw c e = .inr 0 := by
      unfold gLaw
      rw [← q3, if_pos (by omega)]
    refine Rn.iconst (v := (nI 0)) dX10_readAll_24 rfl ?_
    exact Rn.iret dX10_readAll_25 rfl (⟨p1, p1, q, 0, I 95, rfl, q2, q2, fun _ _ => rfl, Or.inr ⟨0, rfl, by decide, by decide, ⟨fun m h => absurd h (by omega), fun i h => absurd h (by omega)⟩, ho⟩⟩)
theorem lp_lawcp {kx : Kx} {bb : Nat} (H : Hi) (V : Nat → Int32) (x1 : Option Value) (kk : Rn G GAM mX10_law kx d bb 85 [some (.ref 94), x1, some (.int (nI 849))] [] (zset H 95 (cpL V 849))) : ∀ m k : Nat, k + m = 849 → Rn G GAM mX10_law kx d bb 52 [some (.ref 94), x1, some (.int (nI k))] [] (zset H 95 (cpL V k)) := by
  intro m
  induction m with
  | zero =>
    intro k hk
    obtain rfl : k = 849 := by omega
    refine Rn.iload_n dX10_law_52 rfl rfl ?_
    refine Rn.sipush (v := (nI 849)) dX10_law_53 rfl ?_
    refine Rn.icmp_geN dX10_law_56 85 (fun _ => ?_) (fun h9 => by exfalso; omega)
    exact kk
  | succ m ih =>
    intro k hk
    refine Rn.iload_n dX10_law_52 rfl rfl ?_
    refine Rn.sipush (v := (nI 849)) dX10_law_53 rfl ?_
    refine Rn.icmp_geN dX10_law_56 85 (fun h9 => by exfalso; omega) (fun _ => ?_)
    refine Rn.aload_n dX10_law_59 rfl rfl ?_
    refine Rn.getR dX10_law_60 fd_X10_13_9 (by first | rfl | exact gC0 (by assumption) | exact gL0 (by assumption)) rfl ?_
    refine Rn.sipush (v := (nI 377)) dX10_law_63 rfl ?_
    refine Rn.iload_n dX10_law_66 rfl rfl ?_
    refine Rn.iadd dX10_law_67 ?_
    refine Rn.aload_n dX10_law_68 rfl rfl ?_
    refine Rn.getR dX10_law_69 fd_X10_13_9 (by first | rfl | exact gC0 (by assumption) | exact gL0 (by assumption)) rfl ?_
    refine Rn.sipush (v := (nI 1226)) dX10_law_72 rfl ?_
    refine Rn.iload_n dX10_law_75 rfl rfl ?_
    refine Rn.iadd dX10_law_76 ?_
    refine Rn.topI (nI (1226 + k)) (by first | rfl | (simp only [nI_add, pk_mul, nI_1]; done) | (simp only [nI_add, pk_mul, nI_1]; congr 1; omega)) ?_
    refine Rn.ialdN dX10_law_77 (by first | rfl | exact gC1 (by assumption) | exact gC2 (by assumption) | exact gC3 (by assumption) | exact gL1 (by assumption) | exact gL2 (by assumption) | exact gL3 (by assumption) | exact gL4 (by assumption) | exact gL5 (by assumption) | exact gL6 (by assumption)) ?_
    refine Rn.secI (nI (377 + k)) (by first | rfl | (simp only [nI_add, pk_mul, nI_1]; done) | (simp only [nI_add, pk_mul, nI_1]; congr 1; omega)) ?_
    refine Rn.iastN dX10_law_78 (by first | rfl | exact gC1 (by assumption) | exact gC2 (by assumption) | exact gC3 (by assumption) | exact gL1 (by assumption) | exact gL2 (by assumption) | exact gL3 (by assumption) | exact gL4 (by assumption) | exact gL5 (by assumption) | exact gL6 (by assumption)) ?_
    refine Rn.iincN dX10_law_79 rfl (by decide) ?_
    refine Rn.goto 52 dX10_law_82 (by decide) ?_
    exact Rn.hpp _ (by rw [zup_zset]; exact congrArg _ (cpL_upd V k (by omega))) (ih (k + 1) (by omega))
theorem lw_law (hB : BX I) (hX : XM I) (hT : e ≤ 400 ∧ I 94 9 = nI e ∧ ∀ i, i < e → c i < 256 ∧ I 100 i = sb (c i)) : Ct G GAM mX10_law (d + 33) 0 [.ref 94] I (LQ5 I (gLaw c e)) := by
  have he := hT.1
  refine Ct.mk [some (.ref 94), none, none] ?_
  refine Rn.aload_n dX10_law_0 rfl rfl ?_
  refine Rn.iconst (v := (nI 0)) dX10_law_1 rfl ?_
  refine Rn.callV (As := [_]) dX10_law_2 mv_X10_237 (by first | rfl | exact gC0 (by assumption) | exact gL0 (by assumption)) rfl rfl rfl (Nat.le_of_ble_eq_true rfl) (ct_readAllL G d I hT hB) (fun _ _ h => h) (fun v J h => ?_)
  obtain ⟨p, b, q, s, V, rfl, hp, hb, hV, ⟨rfl, hg⟩ | ⟨n, rfl, hn, hs, hL, hg⟩⟩ := h
  · refine Rn.hpp _ (PS_HI I p b q s V) ?_
    refine Rn.istore_n dX10_law_5 rfl (by decide) ?_
    refine Rn.aload_n dX10_law_6 rfl rfl ?_
    refine Rn.iload_n dX10_law_7 rfl rfl ?_
    refine Rn.if_ge (tgt := 18) dX10_law_8 (by decide) (fun h9 => absurd h9 (by decide)) (fun _ => ?_)
    refine Rn.aload_n dX10_law_11 rfl rfl ?_
    refine Rn.getI dX10_law_12 fd_X10_99_9 (by first | rfl | exact gC0 (by assumption) | exact gL0 (by assumption)) rfl ?_
    refine Rn.topI (nI b) (by rfl) ?_
    refine Rn.goto 19 dX10_law_15 (by decide) ?_
    refine Rn.putI dX10_law_19 fp_X10_33_9 (by first | rfl | exact gC0 (by assumption) | exact gL0 (by assumption)) rfl ?_
    refine Rn.hpp _ (zup_set2 _ _ _ _ _) ?_
    refine Rn.aload_n dX10_law_22 rfl rfl ?_
    refine Rn.iload_n dX10_law_23 rfl rfl ?_
    refine Rn.if_ge (tgt := 31) dX10_law_24 (by decide) (fun h9 => absurd h9 (by decide)) (fun _ => ?_)
    refine Rn.iconst (v := (nI 1)) dX10_law_27 rfl ?_
    refine Rn.goto 32 dX10_law_28 (by decide) ?_
    refine Rn.iconst (v := (nI 1)) dX10_law_32 rfl ?_
    refine Rn.callVp (As := [_, _]) dX10_law_33 mv_X10_241 (by first | rfl | exact gC0 (by assumption) | exact gL0 (by assumption)) rfl rfl rfl (Nat.le_of_ble_eq_true rfl) (ct_thI1 G _ _ _) ?_
    refine Rn.hpp _ (zup_set2 _ _ _ _ _) ?_
    refine Rn.if_eq (tgt := 41) dX10_law_36 (by decide) (fun h9 => absurd h9 (by decide)) (fun _ => ?_)
    refine Rn.iconst (v := (nI 0)) dX10_law_39 rfl ?_
    exact Rn.iret dX10_law_40 rfl (And.intro (LQ_of hB hX (box94 (hB 94 6) (hB 94 7) (iv_nI (n := 400) (by decide) (by decide)) (iv_nI (n := 400) (k := p) (by omega) (by decide)) (hB 94 9) (iv_nI (n := 400) (k := b) (by omega) (by decide))) rfl rfl (fun j hj => by rw [hV j (by omega)]; exact BX.w hB hj) (hX.1.of (fun j h1 h2 => hV j h2))) ⟨fun c h1 h2 => by rw [zset_ne _ _ h2, zset_ne _ _ h1], fun j h1 h2 => by rw [zset_at]; exact hV j (by omega), Or.inr ⟨b, by omega, hg, by rw [zset_ne _ _ (by decide), zset_at]; rfl, by rw [zset_ne _ _ (by decide), zset_at]; rfl, by rw [zset_ne _ _ (by decide), zset_at]; rfl⟩⟩)
  · refine Rn.hpp _ (PS_HI I p b q s V) ?_
    refine Rn.istore_n dX10_law_5 rfl (by decide) ?_
    refine Rn.aload_n dX10_law_6 rfl rfl ?_
    refine Rn.iload_n dX10_law_7 rfl rfl ?_
    refine Rn.if_geN dX10_law_8 18 ?_
    refine Rn.iconst (v := (-1)) dX10_law_18 rfl ?_
    refine Rn.putI dX10_law_19 fp_X10_33_9 (by first | rfl | exact gC0 (by assumption) | exact gL0 (by assumption)) rfl ?_
    refine Rn.hpp _ (zup_set2 _ _ _ _ _) ?_
    refine Rn.aload_n dX10_law_22 rfl rfl ?_
    refine Rn.iload_n dX10_law_23 rfl rfl ?_
    refine Rn.if_geN dX10_law_24 31 ?_
    refine Rn.iconst (v := (nI 0)) dX10_law_31 rfl ?_
    refine Rn.iconst (v := (nI 1)) dX10_law_32 rfl ?_
    refine Rn.callVp (As := [_, _]) dX10_law_33 mv_X10_241 (by first | rfl | exact gC0 (by assumption) | exact gL0 (by assumption)) rfl rfl rfl (Nat.le_of_ble_eq_true rfl) (ct_thI0 G _ _ _) ?_
    refine Rn.if_eq (tgt := 41) dX10_law_36 (by decide) (fun _ => ?_) (fun h9 => absurd h9 (by decide))
    refine Rn.aload_n dX10_law_41 rfl rfl ?_
    refine Rn.getR dX10_law_42 fd_X10_13_9 (by first | rfl | exact gC0 (by assumption) | exact gL0 (by assumption)) rfl ?_
    refine Rn.sipush (v := (nI 1226)) dX10_law_45 rfl ?_
    refine Rn.iload_n dX10_law_48 rfl rfl ?_
    refine Rn.iastN dX10_law_49 (by first | rfl | exact gC1 (by assumption) | exact gC2 (by assumption) | exact gC3 (by assumption) | exact gL1 (by assumption) | exact gL2 (by assumption) | exact gL3 (by assumption) | exact gL4 (by assumption) | exact gL5 (by assumption) | exact gL6 (by assumption)) ?_
    refine Rn.hpp _ (zup_zset _ _ _ _ _) ?_
    refine Rn.iconst (v := (nI 0)) dX10_law_50 rfl ?_
    refine Rn.istore_n dX10_law_51 rfl (by decide) ?_
    refine Rn.hpp (zset (zset I 94 (upd (PA (HA I) p b q s) 14 (-1))) 95 (cpL (upd V 1226 (nI n)) 0)) (by rw [cpL_0]) (lp_lawcp G (d + 33) _ (upd V 1226 (nI n)) _ ?_ 849 0 rfl)
    refine Rn.aload_n dX10_law_85 rfl rfl ?_
    refine Rn.getR dX10_law_86 fd_X10_13_9 (by first | rfl | exact gC0 (by assumption) | exact gL0 (by assumption)) rfl ?_
    refine Rn.iconst (v := (nI 3)) dX10_law_89 rfl ?_
    refine Rn.iconst (v := (nI 1)) dX10_law_90 rfl ?_
    refine Rn.iastN dX10_law_91 (by first | rfl | exact gC1 (by assumption) | exact gC2 (by assumption) | exact gC3 (by assumption) | exact gL1 (by assumption) | exact gL2 (by assumption) | exact gL3 (by assumption) | exact gL4 (by assumption) | exact gL5 (by assumption) | exact gL6 (by assumption)) ?_
    refine Rn.hpp _ (zup_zset _ _ _ _ _) ?_
    refine Rn.aload_n dX10_law_92 rfl rfl ?_
    refine Rn.iconst (v := (nI 0)) dX10_law_93 rfl ?_
    refine Rn.putI dX10_law_94 fp_X10_58_9 (by first | rfl | exact gC0 (by assumption) | exact gL0 (by assumption)) rfl ?_
    refine Rn.hpp _ (zup_set2 _ _ _ _ _) ?_
    refine Rn.iload_n dX10_law_97 rfl rfl ?_
    have hW9 : ∀ j, j < 377 → inIv (wbx j) (upd (cpL (upd V 1226 (nI n)) 849) 3 (nI 1) j) := by
      intro j hj
      by_cases e3 : j = 3
      · subst e3
        rw [upd_at]
        exact iv_nI (n := 1) (by decide) (by decide)
      · rw [upd_ne _ _ e3]
        simp only [cpL]
        rw [if_neg (by omega), upd_ne _ _ (by omega), hV j (by omega)]
        exact BX.w hB hj
    have hL9 : LawX (upd (cpL (upd V 1226 (nI n)) 849) 3 (nI 1)) := LawX_of hn hs hL (fun k hk => by
      rw [upd_ne _ _ (by omega)]
      simp only [cpL]
      rw [if_pos (by omega)]
      congr 1
      omega)
    have hA9 : ∀ j, inIv (hxB 94 j) (upd (upd (PA (HA I) p b q s) 14 (-1)) 7 (nI 0) j) := box94 (hB 94 6) (iv_nI (n := 12) (k := 0) (by decide) (by decide)) (iv_nI (n := 400) (k := 0) (by decide) (by decide)) (iv_nI (n := 400) (k := p) (by omega) (by decide)) (hB 94 9) (iv_nI (n := 400) (k := b) (by omega) (by decide))
    exact Rn.iret dX10_law_98 rfl (And.intro (LQ_of hB hX hA9 rfl rfl hW9 hL9) ⟨fun c h1 h2 => by rw [zset_ne _ _ h2, zset_ne _ _ h1], fun j h1 h2 => by rw [zset_at, upd_ne _ _ h2]; simp only [cpL]; rw [if_neg (by omega), upd_ne _ _ (by omega), hV j (by omega)], Or.inl ⟨n, hn, hg, rfl, by rw [zset_ne _ _ (by decide), zset_at]; rfl, by rw [zset_ne _ _ (by decide), zset_at]; rfl, by rw [zset_ne _ _ (by decide), zset_at]; rfl⟩⟩)
end LawT
