theorem dL_law__0 : decode cL_law_ 0 = .ok (.new 8, 3) := by decide +kernel
theorem wi_126 : Cond.classLink RL 8 RX9 ∈ WA := zin 126 (by decide +kernel) (by decide +kernel)
theorem wi_127 : Cond.instantiable RX9 13 ∈ WA := zin 127 (by decide +kernel) (by decide +kernel)
theorem nw_L_8 : zNw RL 8 8 13 [some none, some none, some none, some none, some none, some none, some none, some none, some none, some none, some none, none, none] := ⟨RX9, TX9, tyX9, rfl, uw_X9, tyX9_ok, wi_126, wi_127, wi_100, rfl, by decide +kernel⟩
theorem dL_law__3 : decode cL_law_ 3 = .ok (.dup, 1) := by decide +kernel
theorem dL_law__4 : decode cL_law_ 4 = .ok (.invokespecial 126, 3) := by decide +kernel
theorem wi_128 : Cond.methodLink RL 126 yX9_init ∈ WA := zin 128 (by decide +kernel) (by decide +kernel)
theorem wi_130 : Cond.code yX9_init cX9_init 1 (none) ∈ WA := zin 130 (by decide +kernel) (by decide +kernel)
theorem wi_129 : Cond.instanceMethod yX9_init ∈ WA := zin 129 (by decide +kernel) (by decide +kernel)
theorem mi_L_126 : zMi RL 126 mX9_init 0 := ⟨⟨wi_128, wi_100, wi_130, by decide, by decide +kernel⟩, rfl, wi_129⟩
theorem dL_law__7 : decode cL_law_ 7 = .ok (.astore_n 1, 1) := by decide +kernel
theorem dL_law__8 : decode cL_law_ 8 = .ok (.new 127, 3) := by decide +kernel
theorem wi_1253 : Cond.classLink RL 127 RX10 ∈ WA := zin 1253 (by decide +kernel) (by decide +kernel)
theorem wi_1254 : Cond.instantiable RX10 23 ∈ WA := zin 1254 (by decide +kernel) (by decide +kernel)
theorem nw_L_127 : zNw RL 127 9 23 [none, some none, some none, some none, some none, some none, none, none, some none, none, none, none, none, none, none, some none, none, some none, some none, some none, some none, none, some none] := ⟨RX10, TX10, tyX10, rfl, uw_X10, tyX10_ok, wi_1253, wi_1254, wi_110, rfl, by decide +kernel⟩
theorem dL_law__11 : decode cL_law_ 11 = .ok (.dup, 1) := by decide +kernel
theorem dL_law__12 : decode cL_law_ 12 = .ok (.invokespecial 129, 3) := by decide +kernel
theorem wi_1255 : Cond.methodLink RL 129 yX10_init ∈ WA := zin 1255 (by decide +kernel) (by decide +kernel)
theorem wi_1257 : Cond.code yX10_init cX10_init 1 (none) ∈ WA := zin 1257 (by decide +kernel) (by decide +kernel)
theorem wi_1256 : Cond.instanceMethod yX10_init ∈ WA := zin 1256 (by decide +kernel) (by decide +kernel)
theorem mi_L_129 : zMi RL 129 mX10_init 0 := ⟨⟨wi_1255, wi_110, wi_1257, by decide, by decide +kernel⟩, rfl, wi_1256⟩
theorem dL_law__15 : decode cL_law_ 15 = .ok (.astore_n 2, 1) := by decide +kernel
theorem dL_law__16 : decode cL_law_ 16 = .ok (.iconst 1, 1) := by decide +kernel
theorem dL_law__17 : decode cL_law_ 17 = .ok (.newarray .long, 2) := by decide +kernel
theorem wi_1928 : Cond.arrayClass .long ∈ WA := zin 1928 (by decide +kernel) (by decide +kernel)
theorem dL_law__19 : decode cL_law_ 19 = .ok (.astore_n 3, 1) := by decide +kernel
theorem dL_law__20 : decode cL_law_ 20 = .ok (.iconst 0, 1) := by decide +kernel
theorem dL_law__21 : decode cL_law_ 21 = .ok (.istore 4, 2) := by decide +kernel
/-! the start -/
def Z0 : Hi := fun _ _ => 0
def I0 : Hi := zup (zup (zup (zup (jB Z0) 94 14 (-1)) 95 5 (nI 5)) 95 6 (nI 20)) 95 8 (nI 1)
theorem jM_ne (I : Hi) : ∀ (j : Nat) {k : Nat}, 46 + 4 * j ≤ k → jM I j k = I k
  | 0, _, _ => rfl
  | j + 1, k, h => by show jC (jM I j) (46 + 4 * j) k = I k; rw [jC_ne _ (by omega), jM_ne I j (by omega)]
theorem jB_ne {k : Nat} (h : 94 ≤ k) : jB Z0 k = fun _ => 0 := by
  unfold jB
  rw [zup_ne _ _ (by omega), jM_ne _ 12 (by omega), zup_ne _ _ (by omega), zup_ne _ _ (by omega), zup_ne _ _ (by omega), zup_ne _ _ (by omega), zup_ne _ _ (by omega), jC_ne _ (by omega), jC_ne _ (by omega), jC_ne _ (by omega)]
  rfl
theorem wbx_0 (p : Nat) : inIv (wbx p) 0 := by
  unfold wbx
  repeat' split
  all_goals exact ⟨by decide, by decide⟩
theorem I0_94 : I0 94 = upd (fun _ => 0) 14 (-1) := by
  unfold I0
  rw [zup_ne _ _ (by decide), zup_ne _ _ (by decide), zup_ne _ _ (by decide), zup_at, jB_ne (by decide)]
theorem I0_95 : I0 95 = upd (upd (upd (fun _ => 0) 5 (nI 5)) 6 (nI 20)) 8 (nI 1) := by
  unfold I0
  rw [zup_at, zup_at, zup_at, zup_ne _ _ (by decide), jB_ne (by decide)]
theorem I0_c {c : Nat} (h : 96 ≤ c) : I0 c = fun _ => 0 := by
  unfold I0
  rw [zup_ne _ _ (by omega), zup_ne _ _ (by omega), zup_ne _ _ (by omega), zup_ne _ _ (by omega), jB_ne (by omega)]
theorem I0_95j {j : Nat} (h5 : j ≠ 5) (h6 : j ≠ 6) (h8 : j ≠ 8) : I0 95 j = 0 := by rw [I0_95, upd_ne _ _ h8, upd_ne _ _ h6, upd_ne _ _ h5]
theorem BX_0 : BX I0 := by
  intro c j
  by_cases h1 : c < 94
  · unfold hxB
    rw [if_pos h1]
    split
    · rename_i e; obtain ⟨rfl, rfl⟩ := e; exact ⟨(by decide +kernel : (0 : Int) ≤ (I0 39 2).toInt), (by decide +kernel : (I0 39 2).toInt ≤ (8 : Int))⟩
    · split
      · rename_i e; obtain ⟨rfl, rfl⟩ := e; exact ⟨(by decide +kernel : (0 : Int) ≤ (I0 1 1).toInt), (by decide +kernel : (I0 1 1).toInt ≤ (400 : Int))⟩
      · split
        · rename_i e; obtain ⟨rfl, rfl⟩ := e; exact ⟨(by decide +kernel : (0 : Int) ≤ (I0 0 11).toInt), (by decide +kernel : (I0 0 11).toInt ≤ (1 : Int))⟩
        · exact inIv_F _
  · by_cases h2 : c = 94
    · subst h2
      have h0 : ∀ j, j ≠ 14 → I0 94 j = 0 := fun j hj => by rw [I0_94, upd_ne _ _ hj]
      exact box94 (by rw [h0 6 (by decide)]; exact ⟨by decide, by decide⟩) (by rw [h0 7 (by decide)]; exact ⟨by decide, by decide⟩) (by rw [h0 9 (by decide)]; exact ⟨by decide, by decide⟩) (by rw [h0 10 (by decide)]; exact ⟨by decide, by decide⟩) (by rw [h0 11 (by decide)]; exact ⟨by decide, by decide⟩) (by rw [h0 12 (by decide)]; exact ⟨by decide, by decide⟩) j
    · by_cases h3 : c = 95
      · subst h3
        refine box95 (fun j hj => ?_) j
        by_cases e5 : j = 5
        · subst e5; exact inIv_F _
        by_cases e6 : j = 6
        · subst e6; exact inIv_F _
        by_cases e8 : j = 8
        · subst e8; exact inIv_F _
        rw [I0_95j e5 e6 e8]
        exact wbx_0 j
      · rw [I0_c (by omega)]
        show inIv (hxB c j) 0
        unfold hxB
        rw [if_neg h1, if_neg h2]
        split
        · split
          · exact wbx_0 j
          · exact inIv_F _
        · split
          · exact wbx_0 _
          · split
            · exact ⟨by decide, by decide⟩
            · exact inIv_F _
theorem LawX_z {W : Nat → Int32} (h : W 377 = 0) : LawX W := ⟨fun _ => 0, fun _ => 0, fun _ => 0, 0, ⟨by decide, h, fun n hn => absurd hn (by omega)⟩, fun n hn => absurd hn (by omega)⟩
theorem MC_0 : MC I0 := ⟨(I0 44 2).toInt.toNat, 0, by decide +kernel, by decide, by decide +kernel, by decide +kernel, fun k hk => absurd hk (by omega)⟩
theorem MR_0 : MR I0 := ⟨0, by decide, by decide +kernel, fun k hk => absurd hk (by omega)⟩
theorem CQ_0 : CQ I0 3 95 := ⟨0, 0, 0, by decide, by decide, by decide, by decide +kernel, by decide +kernel, by decide +kernel, by decide +kernel, by decide +kernel, by decide +kernel, fun k hk => absurd hk (by omega)⟩
theorem CQ_1 : CQ I0 11 96 := ⟨0, 0, 0, by decide, by decide, by decide, by decide +kernel, by decide +kernel, by decide +kernel, by decide +kernel, by decide +kernel, by decide +kernel, fun k hk => absurd hk (by omega)⟩
theorem LI_0 : LI I0 := ⟨BX_0, ⟨⟨LawX_z (I0_95j (by decide) (by decide) (by decide)), LawX_z (by rw [I0_c (by decide)])⟩, MC_0, MR_0⟩, by decide +kernel, by decide +kernel, ⟨fun _ => 0, 0, by decide, by decide +kernel, by decide +kernel, fun i hi => absurd hi (by omega)⟩, by decide +kernel, by decide +kernel, CQ_0, CQ_1⟩
section LawStart
variable {G0 : Gx} {b0 L : Nat} {xs : Nat → Int32}
set_option maxHeartbeats 8000000 in
theorem law_start (h9 : gad G0 998 = b0) (ad : Nat → Nat) (hL : L ≤ 3072) : Rn (gw G0 ad) [] mL_law_ (kZ (kL b0 L xs) G0 0 ad 0) 60 8104 0 [some (.ref 998), none, none, none, none, none, none] [] Z0 := by
  refine Rn.newY (n := 0) (k := 3) dL_law__0 nw_L_8 rfl (zOKb (by decide +kernel)) rfl (by decide +kernel) (by decide) (by decide) (by decide) (fun ad => ?_)
  refine Rn.wld (wB 0 0) rfl ?_
  refine Rn.dup dL_law__3 rfl ?_
  refine Rn.ctorY (mc := 2000) (n := 1) (n2 := 94) (As := []) dL_law__4 (Or.inl mi_L_126) rfl rfl rfl (Nat.le_of_ble_eq_true rfl) (cn_BL _ _ _ (fun k _ => rfl)) rfl rfl (by decide +kernel) (by decide) (by decide) (fun ad => ?_)
  refine Rn.astore_n dL_law__7 rfl (by decide) ?_
  refine Rn.newY (n := 94) (k := 4) dL_law__8 nw_L_127 rfl (zOKs 45 (by decide +kernel) rfl (by decide)) (jB_ne (by decide)) (by decide +kernel) (by decide) (by decide) (by decide) (fun ad => ?_)
  refine Rn.dup dL_law__11 rfl ?_
  refine Rn.ctorY (mc := 2000) (n := 95) (n2 := 107) (As := []) dL_law__12 (Or.inl mi_L_129) rfl rfl rfl (Nat.le_of_ble_eq_true rfl) (cn_Model _ _ _ (fun k hk => jB_ne hk)) rfl rfl (by decide +kernel) (by decide) (by decide) (fun ad => ?_)
  refine Rn.astore_n dL_law__15 rfl (by decide) ?_
  refine Rn.iconst (v := (nI 1)) dL_law__16 rfl ?_
  refine Rn.newaY (n := 107) (k := 1) (len := 1) dL_law__17 rfl (by decide) wi_1928 rfl (by decide) rfl (zOKs 45 (by decide +kernel) rfl (by decide)) (by rw [zup_ne _ _ (by decide), zup_ne _ _ (by decide), zup_ne _ _ (by decide), zup_ne _ _ (by decide)]; exact jB_ne (by decide)) (by decide +kernel) (by decide) (by decide) (by decide) (fun ad => ?_)
  refine Rn.astore_n dL_law__19 rfl (by decide) ?_
  refine Rn.wld GAM rfl ?_
  refine Rn.hpp I0 rfl ?_
  refine Rn.iconst (v := (nI 0)) dL_law__20 rfl ?_
  refine Rn.istore dL_law__21 (by decide) ?_
  exact law_loop h9 hL 512 0 I0 _ _ (by omega) (by omega) LI_0
end LawStart
theorem zmemL {α : Type} (f : α → Cond) : ∀ (l : List α) (ix : List Nat), (l.length == ix.length && (l.zip ix).all (fun q => decide (lw_tbl[q.2]? = some (f q.1)))) = true → ∀ r ∈ l, f r ∈ lw_tbl
  | [], _, _, r, hr => nomatch hr
  | a :: l, [], h, _, _ => nomatch h
  | a :: l, i :: ix, h, r, hr => by
    simp only [List.length_cons, List.zip_cons_cons, List.all_cons, Bool.and_eq_true, beq_iff_eq, decide_eq_true_eq, Nat.add_right_cancel_iff] at h
    rcases List.mem_cons.mp hr with rfl | hr
    · exact List.mem_of_getElem? h.2.1
    · exact zmemL f l ix (by simp only [Bool.and_eq_true, beq_iff_eq]; exact ⟨h.1, h.2.2⟩) r hr
theorem st_nl : ∀ r ∈ zNl, Cond.fieldLinkNest r.1 r.2.1 r.2.2.1 r.2.2.2.1 r.2.2.2.2.1 r.2.2.2.2.2 ∈ lw_tbl := zmemL (fun r : String × Nat × String × String × String × String => Cond.fieldLinkNest r.1 r.2.1 r.2.2.1 r.2.2.2.1 r.2.2.2.2.1 r.2.2.2.2.2) zNl [141, 144, 146, 148, 151, 175, 176, 177, 179, 180, 181, 182, 184, 186, 187, 188, 190, 191, 193, 194, 195, 197, 199, 242, 268, 318, 352] (by decide +kernel)
theorem st_nm : ∀ r ∈ zNm, Cond.methodLinkNest r.1 r.2.1 r.2.2.1 r.2.2.2 ∈ lw_tbl := zmemL (fun r : String × Nat × MethodName × String => Cond.methodLinkNest r.1 r.2.1 r.2.2.1 r.2.2.2) zNm [136, 170, 231, 237, 273, 349] (by decide +kernel)
theorem st_dc : ∀ r ∈ zDc, Cond.declares r ∈ lw_tbl := zmemL (fun r : MethodName => Cond.declares r) zDc [555, 578, 676, 677, 678, 679, 680, 681] (by decide +kernel)
theorem st_cs : ∀ r ∈ zCs, Cond.castable r r ∈ lw_tbl := zmemL (fun r : String => Cond.castable r r) zCs [675, 745, 788, 805, 898] (by decide +kernel)
theorem st_sr : ∀ r ∈ zSR, Cond.stringRef r.1 r.2.1 r.2.2.1 ∈ lw_tbl := zmemL (fun r : String × Nat × String × Nat => Cond.stringRef r.1 r.2.1 r.2.2.1) zSR [1385, 1461, 1466, 1471, 1472, 1484, 1485, 1486, 1487, 1488, 1489, 1490, 1495, 1496, 1497, 1498, 1515, 1524, 1537, 1538, 1539, 1540, 1541, 716, 752, 795, 812, 830, 832, 881, 891, 905, 925, 953, 963, 971, 987, 1023, 1063, 1086, 1111, 1174, 1200, 1229, 1252] (by decide +kernel)
theorem st_ao : Cond.arrayOver (.object "BorrowedLuck$Coast") ∈ lw_tbl := List.mem_of_getElem? (i := 348) (by decide +kernel)
theorem st_l1 : Cond.laysStatic Bundle.tN "UNASSIGNED_STACK" Bundle.steD ∈ lw_tbl := List.mem_of_getElem? (i := 700) (by decide +kernel)
theorem st_l2 : Cond.laysStatic Bundle.tN "SUPPRESSED_SENTINEL" Bundle.listD ∈ lw_tbl := List.mem_of_getElem? (i := 702) (by decide +kernel)
theorem st_it : Cond.initialized Bundle.tN ∈ lw_tbl := List.mem_of_getElem? (i := 113) (by decide +kernel)
theorem st_own : ∀ r ∈ zSR, r.1 = RX9 ∨ r.1 = RX10 := by decide +kernel
theorem st_one : ∀ r ∈ zSR, ∀ q ∈ zSR, r.2.2.2 = q.2.2.2 → r = q := by decide +kernel
theorem st_998 : ∀ r ∈ zSR, r.2.2.2 ≠ 998 := by decide +kernel
theorem st_c1 : Cond.laysStatic "java/lang/String" "COMPACT_STRINGS" "Z" ∈ lw_tbl := List.mem_of_getElem? (i := 1399) (by decide +kernel)
theorem st_c2 : Cond.initialized "java/lang/String" ∈ lw_tbl := List.mem_of_getElem? (i := 118) (by decide +kernel)
theorem st_c3 : Cond.laysStatic "jdk/internal/util/Preconditions" "SIOOBE_FORMATTER" "Ljava/util/function/BiFunction;" ∈ lw_tbl := List.mem_of_getElem? (i := 1415) (by decide +kernel)
theorem st_c4 : Cond.initialized "jdk/internal/util/Preconditions" ∈ lw_tbl := List.mem_of_getElem? (i := 120) (by decide +kernel)
def FL : List Jvm.Cond := flatC (Jvm.Cond.and given_1 narrow_1)
def zsI : List Nat := [151, 131, 137, 142, 157, 144, 145, 147, 149, 162, 164, 166, 218, 173, 220, 222, 200, 192, 171, 175, 177, 211, 216]
def zsB : List Nat := [612, 621, 630, 637, 646, 655, 661, 669, 677, 685, 694, 702, 709, 717, 725, 734, 740, 747, 754, 762, 769, 778, 785]
def tmS (i : Nat) : Term := .string "BorrowedLuckModel" (zsI.getD i 0)
theorem st_nc : ∀ E ∈ zCs, ∀ F ∈ zCs, E ≠ F → Cond.not (.castable E F) ∈ FL := by decide +kernel
theorem st_s0 : ∀ i : Fin 23, FL[zsB.getD i 0]? = some (.exactly (tmS i) "java/lang/String") := by decide +kernel
theorem st_s1 : ∀ i : Fin 23, FL[zsB.getD i 0 + 1]? = some (.eq (.field (tmS i) "java/lang/String" "coder" "B") (.int 0)) := by decide +kernel
theorem st_s2 : ∀ i : Fin 23, FL[zsB.getD i 0 + 2]? = some (.arrayOf (.field (tmS i) "java/lang/String" "value" "[B") .byte) := by decide +kernel
theorem st_s3 : ∀ i : Fin 23, FL[zsB.getD i 0 + 3]? = some (.eq (.length (.field (tmS i) "java/lang/String" "value" "[B")) (.int (Int32.ofNat (zsLen.getD i 0)))) := by decide +kernel
theorem st_s4 : ∀ i : Fin 23, ∀ j : Fin 8, (j : Nat) < zsLen.getD i 0 → FL[zsB.getD i 0 + 4 + j]? = some (.eq (.elem (.field (tmS i) "java/lang/String" "value" "[B") (.int (Int32.ofNat j))) (.int ((zsByt.getD i []).getD j 0))) := by decide +kernel
theorem st_s5 : ∀ i j : Fin 23, zsLen.getD i 0 = zsLen.getD j 0 → (∀ k : Fin 8, (k : Nat) < zsLen.getD i 0 → (zsByt.getD i []).getD k 0 = (zsByt.getD j []).getD k 0) → i = j := by decide +kernel
theorem st_s6 : ∀ r ∈ zSR, r.2.2.2 < 1023 → r.1 = "BorrowedLuckModel" ∧ r.2.1 = zsI.getD (r.2.2.2 - 1000) 0 ∧ 1000 ≤ r.2.2.2 := by decide +kernel
theorem st_s7 : ∀ r ∈ zSR, 1000 ≤ r.2.2.2 ∧ r.2.2.2 < 1100 := by decide +kernel
theorem st_str {s : State} {b : Nat} {A : Nat → Prop} (hs : ∀ c ∈ FL, c.before #[Value.ref b] s = true) (hA : ∀ a : Nat, a < s.heap.size → ¬ A a) : ∃ K : Nat → Nat × Nat, vk_S zsN zsLen zsByt (fun i => (K i).1) (fun i => (K i).2) A s s.heap ∧ ∀ i, i < 23 → (tmS i).eval #[Value.ref b] s none [] s = some (.ref (K i).1) := by
  have one : ∀ i : Nat, ∃ q : Nat × Nat, i < 23 → ((tmS i).eval #[Value.ref b] s none [] s = some (.ref q.1) ∧ va_O "java/lang/String" q.1 A s s.heap ∧ va_OF "java/lang/String" "coder" "B" (.int 0) q.1 A s s.heap ∧ va_OF "java/lang/String" "value" "[B" (.ref q.2) q.1 A s s.heap ∧ va_T .byte q.2 (zsLen.getD i 0) (fun j => .int ((zsByt.getD i []).getD j 0)) A s s.heap) := by
    intro i
    by_cases hi : i < 23
    · have hb : zsLen.getD i 0 < 8 := (zsLen_b ⟨i, hi⟩).2
      obtain ⟨ak, av, h1, h2⟩ := vk_Sof (N := 1) (tm := fun _ => tmS i) (len := [zsLen.getD i 0]) (byt := [zsByt.getD i []]) (A := A) (args := #[Value.ref b]) (s := s)
        (fun k hk => by obtain rfl : k = 0 := by omega
                        show zsLen.getD i 0 < 2 ^ 31; omega)
        (fun k _ => hs _ (List.mem_of_getElem? (st_s0 ⟨i, hi⟩)))
        (fun k _ => hs _ (List.mem_of_getElem? (st_s1 ⟨i, hi⟩)))
        (fun k _ => hs _ (List.mem_of_getElem? (st_s2 ⟨i, hi⟩)))
        (fun k hk => by obtain rfl : k = 0 := by omega
                        exact hs _ (List.mem_of_getElem? (st_s3 ⟨i, hi⟩)))
        (fun k hk j hj => by
          obtain rfl : k = 0 := by omega
          have hj : j < zsLen.getD i 0 := hj
          exact hs _ (List.mem_of_getElem? (st_s4 ⟨i, hi⟩ ⟨j, by omega⟩ hj)))
        (fun p q hp hq hn => absurd (show p = q by omega) hn) hA
      exact ⟨(ak 0, av 0), fun _ => ⟨h2 0 (by decide), h1.1 0 (by decide)⟩⟩
    · exact ⟨(0, 0), fun h => absurd h hi⟩
  obtain ⟨K, hK⟩ := Classical.axiomOfChoice one
  refine ⟨K, ⟨fun i hi => (hK i hi).2, fun i j hi hj e => ?_⟩, fun i hi => (hK i hi).1⟩
  obtain ⟨-, -, -, ⟨cf, k, n, f, cell, a1, a2, a3, a4, a5, a6⟩, ⟨ca, b1, b2, b3, b4, b5, b6, b7⟩⟩ := hK i hi
  obtain ⟨-, -, -, ⟨cf', k', n', f', cell', a1', a2', a3', a4', a5', a6'⟩, ⟨ca', b1', b2', b3', b4', b5', b6', b7'⟩⟩ := hK j hj
  have e : (K i).1 = (K j).1 := e
  have hf : f = f' := by
    have := a1.symm.trans a1'
    simp only [Option.some.injEq, Prod.mk.injEq] at this
    exact this.2.2.2
  have hc : cell = cell' := Option.some.inj (a3.symm.trans (by rw [e]; exact a3'))
  have hv : (K i).2 = (K j).2 := by
    rw [hf, hc] at a5
    have := Option.some.inj (a5.symm.trans a5')
    exact Value.ref.inj this
  have hca : ca = ca' := Option.some.inj (b1.symm.trans (by rw [hv]; exact b1'))
  have l1 := (zsLen_b ⟨i, hi⟩).2
  have l2 := (zsLen_b ⟨j, hj⟩).2
  have l1 : zsLen.getD i 0 < 8 := l1
  have l2 : zsLen.getD j 0 < 8 := l2
  have hl : zsLen.getD i 0 = zsLen.getD j 0 := by
    have q : nI (zsLen.getD i 0) = nI (zsLen.getD j 0) := b5.symm.trans (by rw [hca]; exact b5')
    exact (nI_eq (by omega) (by omega)).mp q
  have := st_s5 ⟨i, hi⟩ ⟨j, hj⟩ hl (fun k hk => by
    have hk : (k : Nat) < zsLen.getD i 0 := hk
    have q1 := b6 k hk
    have q2 := b6' k (by omega)
    rw [hca] at q1
    have := Option.some.inj (q1.symm.trans q2)
    exact Value.int.inj this)
  exact congrArg Fin.val this
theorem start_G {p : Program} {s : State} {m : MethodId} {meth : Method} {c : Code} (l : Launch) (hl : l.stackTraces = false) {b L : Nat} {xs : Nat → Int32} (C0 : lw_At p s m meth c b L xs) : ∃ G0 : Gx, gL G0 = l ∧ gad G0 998 = b ∧ zK G0 (zA G0 [] s.heap.size) s s.heap := by
  obtain ⟨-, -, -, -, -, hts, hX, hbl, -, hgv⟩ := C0
  have hwa : ∀ w ∈ WA, w.before #[Value.ref b] s = true := fun w hw => hts w (List.mem_filter.mp hw).1
  have hex : ∀ k : Nat, ∃ ci : ClassId × (Nat → Nat), ∀ q : vw_C, vwCl[k]? = some q → u_Kn s q.1 q.2.1 q.2.2 ci.1 ci.2 := by
    intro k
    match k with
    | 0 =>
      obtain ⟨cC, iS, h⟩ := u_known (C := RX0) (T := TX0) (N := 12) (n := 12) hwa uw_X0 (hwa _ wi_169)
      exact ⟨(cC, iS), fun q hq => by cases hq; exact h⟩
    | 1 =>
      obtain ⟨cC, iS, h⟩ := u_known (C := RX1) (T := TX1) (N := 3) (n := 3) hwa uw_X1 (hwa _ wi_275)
      exact ⟨(cC, iS), fun q hq => by cases hq; exact h⟩
    | 2 =>
      obtain ⟨cC, iS, h⟩ := u_known (C := RX2) (T := TX2) (N := 8) (n := 8) hwa uw_X2 (hwa _ wi_236)
      exact ⟨(cC, iS), fun q hq => by cases hq; exact h⟩
    | 3 =>
      obtain ⟨cC, iS, h⟩ := u_known (C := RX3) (T := TX3) (N := 3) (n := 3) hwa uw_X3 (hwa _ wi_298)
      exact ⟨(cC, iS), fun q hq => by cases hq; exact h⟩
    | 4 =>
      obtain ⟨cC, iS, h⟩ := u_known (C := RX5) (T := TX5) (N := 3) (n := 3) hwa uw_X5 (hwa _ wi_342)
      exact ⟨(cC, iS), fun q hq => by cases hq; exact h⟩
    | 5 =>
      obtain ⟨cC, iS, h⟩ := u_known (C := RX6) (T := TX6) (N := 1) (n := 1) hwa uw_X6 (hwa _ wi_230)
      exact ⟨(cC, iS), fun q hq => by cases hq; exact h⟩
    | 6 =>
      obtain ⟨cC, iS, h⟩ := u_known (C := RX7) (T := TX7) (N := 8) (n := 8) hwa uw_X7 (hwa _ wi_310)
      exact ⟨(cC, iS), fun q hq => by cases hq; exact h⟩
    | 7 =>
      obtain ⟨cC, iS, h⟩ := u_known (C := RX8) (T := TX8) (N := 7) (n := 7) hwa uw_X8 (hwa _ wi_135)
      exact ⟨(cC, iS), fun q hq => by cases hq; exact h⟩
    | 8 =>
      obtain ⟨cC, iS, h⟩ := u_known (C := RX9) (T := TX9) (N := 13) (n := 13) hwa uw_X9 (hwa _ wi_127)
      exact ⟨(cC, iS), fun q hq => by cases hq; exact h⟩
    | 9 =>
      obtain ⟨cC, iS, h⟩ := u_known (C := RX10) (T := TX10) (N := 23) (n := 23) hwa uw_X10 (hwa _ wi_1254)
      exact ⟨(cC, iS), fun q hq => by cases hq; exact h⟩
    | k + 10 => exact ⟨(0, fun _ => 0), fun q hq => by simp [vwCl] at hq⟩
  obtain ⟨D, hD⟩ := Classical.axiomOfChoice hex
  have hfc : ∀ r ∈ zSR, ∃ cu, s.vm.findClass r.1 = some cu := by
    intro r hr
    rcases st_own r hr with h | h
    · exact ⟨_, by rw [h]; exact (hD 8 _ rfl).2.1⟩
    · exact ⟨_, by rw [h]; exact (hD 9 _ rfl).2.1⟩
  have hst : ∀ k : Nat, ∃ a : Nat, ∀ r ∈ zSR, r.2.2.2 = k → vk_R r.1 r.2.1 r.2.2.1 a s := by
    intro k
    by_cases h : ∃ r, r ∈ zSR ∧ r.2.2.2 = k
    · obtain ⟨r, hr, hk⟩ := h
      obtain ⟨cu, hcu⟩ := hfc r hr
      have h1 := hts _ (st_sr r hr)
      obtain ⟨_, _, _, a, -, -, -, -, -, hev⟩ := Cond.stringRef_spec (args := #[Value.ref b]) (first := s) (o := none) (idx := []) hcu h1
      refine ⟨a, fun q hq hqk => ?_⟩
      obtain rfl := st_one r hr q hq (hk.trans hqk.symm)
      exact vk_R.of h1 hev
    · exact ⟨0, fun r hr hk => absurd ⟨r, hr, hk⟩ h⟩
  obtain ⟨S, hS⟩ := Classical.axiomOfChoice hst
  obtain ⟨cI, kI, oI, i1, i2, i3⟩ := Cond.arrayClass_spec (hwa _ wi_167)
  obtain ⟨cB, kB, oB, b1, b2, b3⟩ := Cond.arrayClass_spec (hwa _ wi_742)
  obtain ⟨cL, kL', oL, l1, l2, l3⟩ := Cond.arrayClass_spec (hwa _ wi_1928)
  obtain ⟨oQ, cQ, kQ, q1, q2, q3, q4, q5⟩ := Cond.arrayOver_spec (hts _ st_ao)
  have hs := flat_of_before _ hgv
  have hr1 : (Cond.isRef (.static Bundle.tN "UNASSIGNED_STACK" Bundle.steD)).before #[Value.ref b] s = true := hs _ (by decide +kernel)
  have hr2 : (Cond.isRef (.static Bundle.tN "SUPPRESSED_SENTINEL" Bundle.listD)).before #[Value.ref b] s = true := hs _ (by decide +kernel)
  obtain ⟨dA, e1, e2, e3, e4⟩ : ∃ dA : FieldType → ClassId, dA .int = cI ∧ dA .byte = cB ∧ dA .long = cL ∧ dA (.object "BorrowedLuck$Coast") = cQ := ⟨fun ty => match ty with | .int => cI | .byte => cB | .long => cL | .object _ => cQ | _ => 0, rfl, rfl, rfl, rfl⟩
  have hty : ∀ (k : Nat) (q : ClassId × FieldType), (ztys dA)[k]? = some q → ArrOfT s q.1 q.2 ∧ va_RA s q.1 q.2 := by
    intro k q hq
    match k, hq with
    | 0, hq => cases hq; exact ⟨fun n z => ⟨fun k h => (by cases h), kI, by rw [e1]; exact i2, oI, i3⟩, by rw [e1]; exact i1⟩
    | 1, hq => cases hq; exact ⟨fun n z => ⟨fun k h => (by cases h), kB, by rw [e2]; exact b2, oB, b3⟩, by rw [e2]; exact b1⟩
    | 2, hq => cases hq; exact ⟨fun n z => ⟨fun k h => (by cases h), kL', by rw [e3]; exact l2, oL, l3⟩, by rw [e3]; exact l1⟩
    | 3, hq => cases hq; exact ⟨fun n z => ⟨fun k h => (by cases h), kQ, by rw [e4]; exact q3, oQ, q4⟩, by rw [e4]; exact ⟨kQ, oQ, q3, q4, q1, q5⟩⟩
    | k + 4, hq => simp [ztys] at hq
  have hA0 : ∀ a : Nat, a < s.heap.size → ¬ (s.heap.size ≤ a) := fun a h q => by omega
  obtain ⟨K, hKS, hKe⟩ := st_str (A := fun q => s.heap.size ≤ q) hs hA0
  have hsq : ∃ sq : Nat, va_Z "jdk/internal/util/Preconditions" "SIOOBE_FORMATTER" "Ljava/util/function/BiFunction;" .null (fun q => s.heap.size ≤ q) s s.heap ∨ va_Z "jdk/internal/util/Preconditions" "SIOOBE_FORMATTER" "Ljava/util/function/BiFunction;" (.ref sq) (fun q => s.heap.size ≤ q) s s.heap := by
    rcases va_Zqof (A := fun q => s.heap.size ≤ q) (hts _ st_c3) (hts _ st_c4) (hs _ (by decide +kernel)) hA0 with h | ⟨t, h⟩
    · exact ⟨0, Or.inl h⟩
    · exact ⟨t, Or.inr h⟩
  obtain ⟨sq, hsq⟩ := hsq
  have hcs := va_Zof (A := fun q => s.heap.size ≤ q) (v := .int 1) (hts _ st_c1) (hts _ st_c2) (va_eqt (hs _ (by decide +kernel))) hA0
  generalize hG : ((l, fun k => (D k).1, fun k => (D k).2, fun k => if k = 998 then b else if 1000 ≤ k ∧ k < 1023 then (K (k - 1000)).1 else if 1100 ≤ k ∧ k < 1123 then (K (k - 1100)).2 else if k = 1999 then sq else S k, dA, fun _ => 0) : Gx) = G0
  have hA : ∀ a : Nat, a < s.heap.size → ¬ zA G0 [] s.heap.size a := by
    rintro a ha (⟨k, hk, -⟩ | h)
    · exact absurd hk (by simp)
    · omega
  have hsub : ∀ q, zA G0 [] s.heap.size q → s.heap.size ≤ q := by
    rintro q (⟨k, hk, -⟩ | h)
    · exact absurd hk (by simp)
    · exact h
  subst hG
  refine ⟨_, rfl, rfl, ⟨fun k q hq => hD k q hq, hty⟩, fun r hr => va_Nw.of rfl (hts _ (st_nl r hr)), fun r hr => ?_, vx_Zqof (hts _ st_l1) (hts _ st_it) hr1 hA, vx_Zqof (hts _ st_l2) (hts _ st_it) hr2 hA, ⟨fun r hr => va_Nw.of rfl (hts _ (st_cs r hr)), fun r hr => va_Nw.of rfl (hts _ (st_nm r hr)), fun r hr => va_Nw.of rfl (hts _ (st_dc r hr)), va_AO.of (hts _ st_ao), fun E hE F hF hn => va_Nc.of (hs _ (st_nc E hE F hF hn)), ?_, hcs.narrow hsub, ?_⟩, hl⟩
  · obtain ⟨z1, z2⟩ := st_s7 r hr
    show vk_R r.1 r.2.1 r.2.2.1 (if r.2.2.2 = 998 then b else if 1000 ≤ r.2.2.2 ∧ r.2.2.2 < 1023 then (K (r.2.2.2 - 1000)).1 else if 1100 ≤ r.2.2.2 ∧ r.2.2.2 < 1123 then (K (r.2.2.2 - 1100)).2 else if r.2.2.2 = 1999 then sq else S r.2.2.2) s
    rw [if_neg (st_998 r hr)]
    by_cases h23 : r.2.2.2 < 1023
    · obtain ⟨y1, y2, y3⟩ := st_s6 r hr h23
      rw [if_pos ⟨y3, h23⟩]
      refine vk_R.of (hts _ (st_sr r hr)) ?_
      have := hKe (r.2.2.2 - 1000) (by omega)
      unfold tmS at this
      rw [← y2, ← y1] at this
      exact this
    · rw [if_neg (by omega), if_neg (by omega), if_neg (by omega)]
      exact hS _ r hr rfl
  · have e1 : ∀ i, i < 23 → (if 1000 + i = 998 then b else if 1000 ≤ 1000 + i ∧ 1000 + i < 1023 then (K (1000 + i - 1000)).1 else if 1100 ≤ 1000 + i ∧ 1000 + i < 1123 then (K (1000 + i - 1100)).2 else if 1000 + i = 1999 then sq else S (1000 + i)) = (K i).1 := fun i hi => by
      rw [if_neg (by omega), if_pos (by omega), show 1000 + i - 1000 = i by omega]
    have e2 : ∀ i, i < 23 → (if 1100 + i = 998 then b else if 1000 ≤ 1100 + i ∧ 1100 + i < 1023 then (K (1100 + i - 1000)).1 else if 1100 ≤ 1100 + i ∧ 1100 + i < 1123 then (K (1100 + i - 1100)).2 else if 1100 + i = 1999 then sq else S (1100 + i)) = (K i).2 := fun i hi => by
      rw [if_neg (by omega), if_neg (by omega), if_pos (by omega), show 1100 + i - 1100 = i by omega]
    have hKS2 := hKS.narrow hsub
    refine ⟨fun i hi => ?_, fun i j hi hj e => ?_⟩
    · have h := hKS2.1 i hi
      have hi : i < 23 := hi
      have h : va_O "java/lang/String" (K i).1 _ s s.heap ∧ va_OF "java/lang/String" "coder" "B" (.int 0) (K i).1 _ s s.heap ∧ va_OF "java/lang/String" "value" "[B" (.ref (K i).2) (K i).1 _ s s.heap ∧ va_T .byte (K i).2 (zsLen.getD i 0) (fun j => .int ((zsByt.getD i []).getD j 0)) _ s s.heap := h
      rw [← e1 i hi, ← e2 i hi] at h
      exact h
    · have hi9 : i < 23 := hi
      have hj9 : j < 23 := hj
      exact hKS2.2 i j hi hj ((e1 i hi9).symm.trans (e.trans (e1 j hj9)))
  · exact hsq.imp (fun h => h.narrow hsub) (fun h => h.narrow hsub)
theorem start_of {p : Program} {e : Env} {s : State} {m : MethodId} {below : List Frame} {meth : Method} {c : Code} (l : Launch) (hl : l.stackTraces = false) {b L : Nat} {xs : Nat → Int32} (hL : L ≤ 3072) (hnm : meth.name = "law") (C0 : lw_At p s m meth c b L xs) : W p l e room_1 s m #[Value.ref b] below meth c s.heap [] 0 0 (lw_Z below #[Value.ref b] s) (entryFrame m ([Value.ref b] : List Value).toArray 7) := by
  obtain ⟨G0, g1, g2, hK⟩ := start_G l hl C0
  obtain ⟨hx, hb, hr, hml, hown, hts, hX, hbl, hlocks, hgv⟩ := C0
  have hwa : ∀ w ∈ WA, w.before #[Value.ref b] s = true := fun w hw => hts w (List.mem_filter.mp hw).1
  have k := law_start (L := L) (xs := xs) g2 (gad G0) hL
  have hl9 := lv_entry ([Value.ref b]) (n := 7) (Nat.le_of_ble_eq_true rfl)
  rw [lg_entry_eq]
  subst g1
  have h9 := k p e room_1 s m #[Value.ref b] below meth c s.heap [] 0 0 601024 7293034 (lw_Z below #[Value.ref b] s) ⟨⟨hx, hb, hml, hr, hlocks, hown, hwa, hK⟩, ⟨fun k q h => by simp [zws] at h, ⟨fun i j p q h => by simp [zws] at h, fun k q h => by simp [zws] at h⟩, va_S.rf⟩, by decide, by decide, by decide, by decide, by decide, by decide, hnm⟩ ⟨⟨rfl, rfl, rfl, rfl, hX, hbl⟩, fun k _ => rfl, fun k _ h => absurd h (by omega), Nat.le_refl _, by decide⟩ _ (by
    show lv_has _ 7 [(0, Value.ref (gad G0 998))]
    rw [g2]; exact hl9)
  exact h9
