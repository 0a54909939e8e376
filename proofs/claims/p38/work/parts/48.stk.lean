/-! ===== the checker: one step is sound, all instructions ===== -/
def retO (ret : Nat) (t : Option FieldType) : Prop := (ret = 0 → t = none) ∧ (ret = 1 → t = some .int) ∧ (ret = 2 → t = some .boolean)
section Stk
variable {G : Gx} {Y : Ym} {Q : Rs → Hi → Prop} {d bud n0 pc mxl ret : Nat} {r0 : Nat → Int32} {hx : Hx} {X : Hi → Prop} {I0 : Hi} {g : List Iv} {L : List (Option SV)} {st : List SV} {kb : Kb} {ss : List (Nat × Ast)} {es : List Ed} {mt : Mt} {i : In} {info : List (Nat × Nat)}
theorem Rn.ifnullN {kx : Kx} {ls : List (Option Value)} {sv : List Value} {I : Hi} {b : Nat} {off : Int} (tgt : Nat) (hd : decode Y.2.1 pc = .ok (.ifnull off, 3)) (ht : (pc : Int) + off = (tgt : Int)) (k : Rn G GAM Y kx d b tgt ls sv I) : Rn G GAM Y kx d b pc ls (.null :: sv) I := by
  intro p e R s m args below meth c H locs cells slots tc ts Z F hk lsA hl
  exact lv_ifnullN F.1.1 F.1.2.1 hd ht (k p e R s m args below meth c H locs cells slots tc ts Z F hk lsA hl)
theorem Rn.ifnonnullN {kx : Kx} {ls : List (Option Value)} {sv : List Value} {I : Hi} {b : Nat} {off : Int} (hd : decode Y.2.1 pc = .ok (.ifnonnull off, 3)) (k : Rn G GAM Y kx d b (pc + 3) ls sv I) : Rn G GAM Y kx d b pc ls (.null :: sv) I := by
  intro p e R s m args below meth c H locs cells slots tc ts Z F hk lsA hl
  exact lv_ifnonnullN F.1.1 F.1.2.1 hd (k p e R s m args below meth c H locs cells slots tc ts Z F hk lsA hl)
theorem acN_ok {r : Nat → Int32} {I : Hi} {b idx : Nat} (hO : hxOK hx X) (hd : decode Y.2.1 pc = .ok (.invokestatic idx, 3)) (hA : zAc Y.1.cls idx) (h : acN hx (pc + 3) g L kb st = some (ss, es)) (ks : ∀ q ∈ ss, Gd G Y Q d b n0 r0 (HPof hx X I0) q.1 q.2) (ha : ∀ v, v < n0 → r v = r0 v) (hS : Sat r g) (hP : HPof hx X I0 I) (hK : KbOK r kb I) : Rn G GAM Y (kM G GAM Q) d b pc (evL r L) (evS r st) I := by
  unfold acN at h
  split at h
  · rename_i n z1 a z2 a0 st'
    split at h
    · rename_i n1 f1 n2 f2 hG hG0
      split at h
      · rename_i hn
        obtain ⟨⟨c1, c2, c3, c4, c5⟩, c6, ⟨c7, c8, c9, c10⟩, c11, c12⟩ := hn
        cases h
        have e1 : evI r n = nI n.2.2.toNat := by
          unfold evI
          rw [c1, Int.zero_mul, Int.zero_add]
          show _ = Int32.ofNat _
          rw [← Int32.ofInt_eq_ofNat, Int.toNat_of_nonneg c7]
        have e2 : evI r z1 = nI 0 := by
          unfold evI
          rw [c2, c3, Int.zero_mul]; rfl
        have e3 : evI r z2 = nI 0 := by
          unfold evI
          rw [c4, c5, Int.zero_mul]; rfl
        show Rn G GAM Y (kM G GAM Q) d b pc (evL r L) (.int (evI r n) :: .int (evI r z1) :: .ref a :: .int (evI r z2) :: .ref a0 :: evS r st') I
        rw [e1, e2, e3]
        refine Rn.acopy hd hA hG0 hG (by omega) (by omega) (by omega) (by rw [evS_cat]; exact c6) ?_
        refine Gd.use ks ha hS (HP_set hO c11 c12 (fun j hj => ?_) hP) (kbF_ok (fun c' hc => by show (if c' = _ then _ else _) = _; rw [if_neg hc]) hK)
        unfold va_cpy
        rw [if_neg (by omega)]
      · cases h
    · cases h
  · cases h
set_option maxHeartbeats 4000000 in
theorem stp_ok (hO : hxOK hx X) (hI : okI mt Y pc i info) (hm : mxl = Y.2.2.1) (hr : retO ret Y.2.2.2) (h : stp hx n0 mxl ret bud pc i info g L st kb = some (ss, es)) (ks : ∀ q ∈ ss, Gd G Y Q d bud n0 r0 (HPof hx X I0) q.1 q.2) (ke : ∀ e ∈ es, Ge Q n0 r0 (HPof hx X I0) e) : Gd G Y Q d bud n0 r0 (HPof hx X I0) pc (g, L, st, kb) := by
  subst hm
  intro r I ha hS0 hP hK0
  obtain ⟨⟨len, hd, hl⟩, hi⟩ := hI
  have hS : Sat r g := hS0
  have hK : KbOK r kb I := hK0
  clear hS0 hK0
  show Rn G GAM Y (kM G GAM Q) d bud pc (evL r L) (evS r st) I
  unfold stp at h
  split at h
  · -- iconst
    obtain rfl : len = 1 := hl.resolve_left Bool.false_ne_true
    cases h
    exact Rn.iconst hd (evI_c r 0 _).symm (Gd.use ks ha hS hP hK)
  · obtain rfl : len = 2 := hl.resolve_left Bool.false_ne_true
    split at h
    · rename_i hn
      cases h
      exact Rn.bipush hd ((bip_ok hn.1 hn.2).trans (evI_c r 0 _).symm) (Gd.use ks ha hS hP hK)
    · cases h
  · obtain rfl : len = 3 := hl.resolve_left Bool.false_ne_true
    split at h
    · rename_i hn
      cases h
      exact Rn.sipush hd ((sip_ok hn.1 hn.2).trans (evI_c r 0 _).symm) (Gd.use ks ha hS hP hK)
    · cases h
  · -- ldc
    obtain rfl : len = 2 := hl.resolve_left Bool.false_ne_true
    split at h
    · rename_i q
      have hi := hi q (List.mem_singleton.mpr rfl)
      split at h
      · rename_i e
        rw [if_pos e] at hi
        obtain ⟨tx, hi⟩ := hi
        cases h
        exact Rn.ldcS hd hi (Gd.use ks ha hS hP hK)
      · rename_i e
        rw [if_neg e] at hi
        cases h
        exact Rn.ldc hd (by rw [evI_c]; exact hi) (Gd.use ks ha hS hP hK)
    · cases h
  · obtain rfl : len = 3 := hl.resolve_left Bool.false_ne_true
    split at h
    · rename_i q
      cases h
      exact Rn.ldc_w hd (by rw [evI_c]; exact hi q (List.mem_singleton.mpr rfl)) (Gd.use ks ha hS hP hK)
    · cases h
  · obtain rfl : len = 1 := hl.resolve_left Bool.false_ne_true
    cases h
    exact Rn.aconst_null hd (Gd.use ks ha hS hP hK)
  · -- iload
    obtain rfl : len = 2 := hl.resolve_left Bool.false_ne_true
    split at h
    · rename_i a e
      split at h
      · cases h
        exact Rn.iload hd (evL_at e) (Gd.use ks ha hS hP hK)
      · split at h
        · rename_i hn
          cases h
          have hi9 := ivA_ok hS a
          unfold inIv at hi9
          exact Rn.iload hd (evL_at e) (fkN_ok e _ ks ha hS hP hK (by omega) (by omega))
        · cases h
    · cases h
  · obtain rfl : len = 1 := hl.resolve_left Bool.false_ne_true
    split at h
    · rename_i a e
      split at h
      · cases h
        exact Rn.iload_n hd rfl (evL_at e) (Gd.use ks ha hS hP hK)
      · split at h
        · rename_i hn
          cases h
          have hi9 := ivA_ok hS a
          unfold inIv at hi9
          exact Rn.iload_n hd rfl (evL_at e) (fkN_ok e _ ks ha hS hP hK (by omega) (by omega))
        · cases h
    · cases h
  · obtain rfl : len = 2 := hl.resolve_left Bool.false_ne_true
    split at h
    · rename_i a e
      cases h
      exact Rn.aload hd (evL_at e) (Gd.use ks ha hS hP hK)
    · cases h
  · obtain rfl : len = 1 := hl.resolve_left Bool.false_ne_true
    split at h
    · rename_i a e
      cases h
      cases a with
      | none => exact Rn.aload_nN hd rfl (evL_at e) (Gd.use ks ha hS hP hK)
      | some a => exact Rn.aload_n hd rfl (evL_at e) (Gd.use ks ha hS hP hK)
    · cases h
  · -- istore
    obtain rfl : len = 2 := hl.resolve_left Bool.false_ne_true
    obtain ⟨a, st', e0, h9⟩ := st1_inv h
    clear h
    subst e0
    have h := h9
    clear h9
    split at h
    · rename_i hn
      cases h
      exact Rn.istore hd hn (by have := Gd.use ks ha hS hP hK; simp only [evL_set] at this; exact this)
    · cases h
  · obtain rfl : len = 1 := hl.resolve_left Bool.false_ne_true
    obtain ⟨a, st', e0, h9⟩ := st1_inv h
    clear h
    subst e0
    have h := h9
    clear h9
    split at h
    · rename_i hn
      cases h
      exact Rn.istore_n hd rfl hn (by have := Gd.use ks ha hS hP hK; simp only [evL_set] at this; exact this)
    · cases h
  · -- astore
    obtain rfl : len = 2 := hl.resolve_left Bool.false_ne_true
    split at h
    · rename_i a st'
      split at h
      · rename_i hn
        cases h
        cases a with
        | none => exact Rn.astoreN hd hn (by have := Gd.use ks ha hS hP hK; simp only [evL_set] at this; exact this)
        | some a => exact Rn.astore hd hn (by have := Gd.use ks ha hS hP hK; simp only [evL_set] at this; exact this)
      · cases h
    · cases h
  · obtain rfl : len = 1 := hl.resolve_left Bool.false_ne_true
    split at h
    · rename_i a st'
      split at h
      · rename_i hn
        cases h
        cases a with
        | none => exact Rn.astore_nN hd rfl hn (by have := Gd.use ks ha hS hP hK; simp only [evL_set] at this; exact this)
        | some a => exact Rn.astore_n hd rfl hn (by have := Gd.use ks ha hS hP hK; simp only [evL_set] at this; exact this)
      · cases h
    · cases h
  · -- iinc
    obtain rfl : len = 3 := hl.resolve_left Bool.false_ne_true
    split at h
    · rename_i a e
      split at h
      · rename_i hn
        cases h
        refine Rn.iinc hd (evL_at e) ?_ hn (by have := Gd.use ks ha hS hP hK; simp only [evL_set] at this; exact this)
        unfold evI
        rw [← Int32.ofInt_add, Int.add_assoc]
      · cases h
    · cases h
  · -- iadd
    obtain rfl : len = 1 := hl.resolve_left Bool.false_ne_true
    obtain ⟨x, y, st', e0, h9⟩ := st2_inv h
    clear h
    subst e0
    have h := h9
    clear h9
    exact Rn.iadd hd (puN_ok h ks ha hS hP hK (fun a e => afAdd_ok e) (ivAdd_ok (ivA_ok hS _) (ivA_ok hS _)))
  · obtain rfl : len = 1 := hl.resolve_left Bool.false_ne_true
    obtain ⟨x, y, st', e0, h9⟩ := st2_inv h
    clear h
    subst e0
    have h := h9
    clear h9
    exact Rn.isub hd (puN_ok h ks ha hS hP hK (fun a e => afSub_ok e) (ivSub_ok (ivA_ok hS _) (ivA_ok hS _)))
  · obtain rfl : len = 1 := hl.resolve_left Bool.false_ne_true
    obtain ⟨x, y, st', e0, h9⟩ := st2_inv h
    clear h
    subst e0
    have h := h9
    clear h9
    exact Rn.imul hd (puN_ok h ks ha hS hP hK (fun a e => afMul_ok e) (ivMul_ok (ivA_ok hS _) (ivA_ok hS _)))
  · -- ineg
    obtain rfl : len = 1 := hl.resolve_left Bool.false_ne_true
    obtain ⟨x, st', e0, h9⟩ := st1_inv h
    clear h
    subst e0
    have h := h9
    clear h9
    cases h
    refine Rn.ineg hd ?_
    rw [← afNeg_ok]
    exact Gd.use ks ha hS hP hK
  · obtain rfl : len = 1 := hl.resolve_left Bool.false_ne_true
    obtain ⟨x, y, st', e0, h9⟩ := st2_inv h
    clear h
    subst e0
    have h := h9
    clear h9
    exact Rn.iand hd (puN_ok h ks ha hS hP hK (fun a e => cst2_ok e) (ivAnd_ok (ivA_ok hS _) (ivA_ok hS _)))
  · obtain rfl : len = 1 := hl.resolve_left Bool.false_ne_true
    obtain ⟨x, y, st', e0, h9⟩ := st2_inv h
    clear h
    subst e0
    have h := h9
    clear h9
    exact Rn.ior hd (puN_ok h ks ha hS hP hK (fun a e => cst2_ok e) (ivOr_ok (ivA_ok hS _) (ivA_ok hS _)))
  · obtain rfl : len = 1 := hl.resolve_left Bool.false_ne_true
    obtain ⟨x, y, st', e0, h9⟩ := st2_inv h
    clear h
    subst e0
    have h := h9
    clear h9
    exact Rn.ixor hd (puN_ok h ks ha hS hP hK (fun a e => cst2_ok e) (inIv_F _))
  · -- ishl
    obtain rfl : len = 1 := hl.resolve_left Bool.false_ne_true
    obtain ⟨x, y, st', e0, h9⟩ := st2_inv h
    clear h
    subst e0
    have h := h9
    clear h9
    refine Rn.ishl hd (puN_ok h ks ha hS hP hK (fun a e => ?_) (ivShl_ok (ivA_ok hS _) (ivA_ok hS _)))
    unfold orE at e
    split at e
    · rename_i e2
      cases e
      exact cst2_ok e2
    · exact afShl_ok e
  · obtain rfl : len = 1 := hl.resolve_left Bool.false_ne_true
    obtain ⟨x, y, st', e0, h9⟩ := st2_inv h
    clear h
    subst e0
    have h := h9
    clear h9
    exact Rn.ishr hd (puN_ok h ks ha hS hP hK (fun a e => cst2_ok e) (inIv_F _))
  · obtain rfl : len = 1 := hl.resolve_left Bool.false_ne_true
    obtain ⟨x, y, st', e0, h9⟩ := st2_inv h
    clear h
    subst e0
    have h := h9
    clear h9
    exact Rn.iushr hd (puN_ok h ks ha hS hP hK (fun a e => cst2_ok (f := ushr32) e) (inIv_F _))
  · -- idiv
    obtain rfl : len = 1 := hl.resolve_left Bool.false_ne_true
    obtain ⟨x, y, st', e0, h9⟩ := st2_inv h
    clear h
    subst e0
    have h := h9
    clear h9
    split at h
    · rename_i hn
      exact Rn.idiv hd (nzI_ok (ivA_ok hS _) hn) (puN_ok h ks ha hS hP hK (fun a e => cst2_ok e) (ivDiv_ok (ivA_ok hS _) (ivA_ok hS _)))
    · cases h
  · obtain rfl : len = 1 := hl.resolve_left Bool.false_ne_true
    obtain ⟨x, y, st', e0, h9⟩ := st2_inv h
    clear h
    subst e0
    have h := h9
    clear h9
    split at h
    · rename_i hn
      exact Rn.irem hd (nzI_ok (ivA_ok hS _) hn) (puN_ok h ks ha hS hP hK (fun a e => cst2_ok (f := fun a b => a - a / b * b) e) (ivRem_ok (ivA_ok hS _) (ivA_ok hS _)))
    · cases h
  · -- i2b
    obtain rfl : len = 1 := hl.resolve_left Bool.false_ne_true
    obtain ⟨x, st', e0, h9⟩ := st1_inv h
    clear h
    subst e0
    have h := h9
    clear h9
    exact Rn.i2b hd (puN_ok h ks ha hS hP hK (fun a e => nomatch e) (i2b_ok _))
  · -- dup
    obtain rfl : len = 1 := hl.resolve_left Bool.false_ne_true
    split at h
    · cases h
      exact Rn.dup hd (evV_cat r _) (Gd.use ks ha hS hP hK)
    · cases h
  · obtain rfl : len = 1 := hl.resolve_left Bool.false_ne_true
    split at h
    · cases h
      exact Rn.dup2 hd (evV_cat r _) (evV_cat r _) (Gd.use ks ha hS hP hK)
    · cases h
  · obtain rfl : len = 1 := hl.resolve_left Bool.false_ne_true
    split at h
    · cases h
      exact Rn.pop hd (evV_cat r _) (Gd.use ks ha hS hP hK)
    · cases h
  · -- goto
    obtain rfl : len = 3 := hl.resolve_left Bool.false_ne_true
    split at h
    · rename_i t e
      cases h
      exact Rn.goto t hd (tgtO_ok e) (Gd.use ks ha hS hP hK)
    · cases h
  · -- ifCond
    obtain rfl : len = 3 := hl.resolve_left Bool.false_ne_true
    obtain ⟨x, st', e0, h9⟩ := st1_inv h
    clear h
    subst e0
    have h := h9
    clear h9
    split at h
    · rename_i t e
      cases h
      exact Rn.ifC hd (tgtO_ok e) (fun hc => tN_ok (fun q hq => ks q (List.mem_append_left _ hq)) hc ha hS hP hK) (fun hc => fN_ok (fun q hq => ks q (List.mem_append_right _ hq)) hc ha hS hP hK)
    · cases h
  · obtain rfl : len = 3 := hl.resolve_left Bool.false_ne_true
    obtain ⟨x, y, st', e0, h9⟩ := st2_inv h
    clear h
    subst e0
    have h := h9
    clear h9
    split at h
    · rename_i t e
      cases h
      exact Rn.icmpC hd (tgtO_ok e) (fun hc => brN_ok (fun q hq => ks q (List.mem_append_left _ hq)) (refT_ok hS hc) ha hP hK) (fun hc => brN_ok (fun q hq => ks q (List.mem_append_right _ hq)) (refF_ok hS hc) ha hP hK)
    · cases h
  · -- ifnull
    obtain rfl : len = 3 := hl.resolve_left Bool.false_ne_true
    split at h
    · cases h
      exact Rn.ifnull hd (Gd.use ks ha hS hP hK)
    · split at h
      · rename_i t e
        cases h
        exact Rn.ifnullN t hd (tgtO_ok e) (Gd.use ks ha hS hP hK)
      · cases h
    · cases h
  · obtain rfl : len = 3 := hl.resolve_left Bool.false_ne_true
    split at h
    · split at h
      · rename_i t e
        cases h
        exact Rn.ifnonnull t hd (tgtO_ok e) (Gd.use ks ha hS hP hK)
      · cases h
    · cases h
      exact Rn.ifnonnullN hd (Gd.use ks ha hS hP hK)
    · cases h
  · -- tableswitch
    rename_i df lo ho offs
    obtain ⟨x, st', e0, h9⟩ := st1_inv h
    clear h
    subst e0
    have h := h9
    clear h9
    split at h
    · rename_i hz
      split at h
      · rename_i t q e1 e2
        cases h
        by_cases hlo : (evI r x).toInt < lo
        · refine Rn.tableOut t hd (Or.inl hlo) (tgtO_ok e1) (brN_ok (fun z hz => ks z (List.mem_append_right _ (List.mem_append_left _ hz))) (refLe_ok hS ?_) ha hP hK)
          rw [evI_c]
          rw [toI_of (by omega) (by omega)]; omega
        · by_cases hhi : ho < (evI r x).toInt
          · refine Rn.tableOut t hd (Or.inr hhi) (tgtO_ok e1) (brN_ok (fun z hz => ks z (List.mem_append_right _ (List.mem_append_right _ hz))) (refLe_ok hS ?_) ha hP hK)
            rw [evI_c, toI_of (by omega) (by omega)]; omega
          · have hlt : ((evI r x).toInt - lo).toNat < offs.toList.length := by
              rw [Array.length_toList]; omega
            obtain ⟨t2, h2, k2⟩ := swN_ok e2 (fun z hz => ks z (List.mem_append_left _ hz)) ha hS hP hK (Int.not_lt.mp hlo) _ (List.getElem?_eq_getElem hlt)
            exact Rn.tableIn t2 hd hlo hhi (by rw [← Array.getElem?_toList]; exact List.getElem?_eq_getElem hlt) h2 k2
      · cases h
    · cases h
  · -- lookupswitch
    obtain ⟨x, st', e0, h9⟩ := st1_inv h
    clear h
    subst e0
    have h := h9
    clear h9
    split at h
    · rename_i hz
      split at h
      · rename_i t q e1 e2
        cases h
        obtain ⟨t2, h2, k2⟩ := lkN_ok (tgtO_ok e1) (Gd.use (s := (g, L, st', kb)) (fun z hz => ks z (List.mem_append_right _ hz)) ha hS hP hK) e2 (fun z hz => ks z (List.mem_append_left _ hz)) ha hS hP hK
        exact Rn.lookup t2 hd hz rfl h2 k2
      · cases h
    · cases h
  · -- getfield
    obtain rfl : len = 3 := hl.resolve_left Bool.false_ne_true
    split at h
    · split at h
      · rename_i a st' q hG
        split at h
        · rename_i z hz
          have hz1 := List.find?_some hz
          simp only [decide_eq_true_eq] at hz1
          have hF := hi z (List.mem_of_find?_eq_some hz)
          rw [hz1] at hF
          split at h
          · rename_i hj
            split at h
            · rename_i hk
              refine Rn.getI hd hF hG hj ?_
              have e0 : (evI r (0, 0, (z.2 : Int))).toNatClampNeg = z.2 := by
                rw [evI_c, clampN, toI_of (by omega) (by omega)]; omega
              have := rdN_ok (a := (0, 0, (z.2 : Int))) hO h ks ha hS hP hK
              rw [e0] at this
              exact this
            · cases h
          · rename_i w hj
            cases h
            exact Rn.getR hd hF hG hj (Gd.use ks ha hS hP hK)
          · cases h
        · cases h
      · cases h
    · cases h
  · -- putfield
    obtain rfl : len = 3 := hl.resolve_left Bool.false_ne_true
    split at h
    · rename_i v a st'
      split at h
      · rename_i q hG
        split at h
        · rename_i z hz
          have hz1 := List.find?_some hz
          simp only [decide_eq_true_eq] at hz1
          have hF := hi z (List.mem_of_find?_eq_some hz)
          rw [hz1] at hF
          split at h
          · rename_i hk
            rw [if_pos hk] at hF
            split at h
            · rename_i hj
              split at h
              · rename_i hw
                cases h
                have e0 : (evI r (0, 0, (z.2 : Int))).toNatClampNeg = z.2 := by
                  rw [evI_c, clampN, toI_of (by omega) (by omega)]; omega
                refine Rn.putI hd hF hG hj ?_
                have k1 := wr_up hO hS hw (ivA_ok hS v) hP
                have k2 := kbW_ok (c := a) (a := (0, 0, (z.2 : Int))) (v := v) hS hK
                rw [e0] at k1 k2
                exact Gd.use ks ha hS k1 k2
              · cases h
            · cases h
          · rename_i hk
            rw [if_neg hk] at hF
            split at h
            · rename_i hj
              split at h
              · rename_i hw
                cases h
                obtain ⟨hk2, hw⟩ := hw
                have hk3 : z.2 - 1000 < 1000 := by omega
                generalize z.2 - 1000 = w at hF hj hw ks hk3
                have e0 : (evI r (0, 0, (w : Int))).toNatClampNeg = w := by
                  rw [evI_c, clampN, toI_of (by omega) (by omega)]; omega
                refine Rn.put hd hF hG hj ?_ ?_
                · rcases bool_of (subI_ok hw.2 (ivA_ok hS v)) with e | e <;> rw [e] <;> exact ⟨rfl, rfl⟩
                have k1 := wr_up hO hS hw.1 (ivA_ok hS v) hP
                have k2 := kbW_ok (c := a) (a := (0, 0, (w : Int))) (v := v) hS hK
                rw [e0] at k1 k2
                exact Gd.use ks ha hS k1 k2
              · cases h
            · cases h
        · cases h
      · cases h
    · cases h
  · -- iaload
    obtain rfl : len = 1 := hl.resolve_left Bool.false_ne_true
    split at h
    · split at h
      · rename_i j a st' n f hG
        split at h
        · rename_i hn
          exact Rn.iald hd hG (vpin hS hn.1 hn.2) (rdN_ok hO h ks ha hS hP hK)
        · cases h
      · cases h
    · cases h
  · -- baload
    obtain rfl : len = 1 := hl.resolve_left Bool.false_ne_true
    split at h
    · split at h
      · rename_i j a st' n f hG
        split at h
        · rename_i hn
          exact Rn.bald hd hG (vpin hS hn.1 hn.2) (rdN_ok hO h ks ha hS hP hK)
        · cases h
      · cases h
    · cases h
  · -- iastore
    obtain rfl : len = 1 := hl.resolve_left Bool.false_ne_true
    split at h
    · rename_i v j a st'
      split at h
      · rename_i n f hG
        split at h
        · rename_i hn
          cases h
          exact Rn.iast hd hG (vpin hS hn.1.1 hn.1.2) (Gd.use ks ha hS (wr_up hO hS hn.2 (ivA_ok hS v) hP) (kbW_ok hS hK))
        · cases h
      · cases h
    · cases h
  · -- bastore
    obtain rfl : len = 1 := hl.resolve_left Bool.false_ne_true
    split at h
    · rename_i v j a st'
      split at h
      · rename_i n f hG
        split at h
        · rename_i hn
          cases h
          exact Rn.bast hd hG (vpin hS hn.1.1 hn.1.2) (Gd.use ks ha hS (wr_up hO hS hn.2 (inIv_F _) hP) (kbF_ok (fun c' hc => by show (if c' = _ then _ else _) = _; rw [if_neg hc]) hK))
        · cases h
      · cases h
    · cases h
  · -- aaload
    obtain rfl : len = 1 := hl.resolve_left Bool.false_ne_true
    split at h
    · rename_i j a st'
      split at h
      · rename_i hn
        obtain ⟨rfl, hn⟩ := hn
        cases h
        have hi9 := ivA_ok hS j
        unfold inIv at hi9
        refine Rn.aald (a := 45) (n := 12) (f := fM 12) (r := 46 + 4 * (evI r j).toInt.toNat) hd rfl (vpin hS hn.1 (by omega)) ?_ (eaN_ok 12 ks ha hS hP hK (by omega) (by omega))
        rw [clampN]
        simp only [fM]
        rw [if_pos (by omega)]
      · cases h
    · cases h
  · -- invokestatic
    obtain rfl : len = 3 := hl.resolve_left Bool.false_ne_true
    split at h
    · rename_i q
      have hi := hi q (List.mem_singleton.mpr rfl)
      split at h
      · rename_i e
        rw [if_neg (by omega), if_pos e] at hi
        obtain ⟨x, y, st', e0, h9⟩ := st2_inv h
        clear h
        subst e0
        have h := h9
        clear h9
        split at h
        · rename_i hn
          exact Rn.mmin (st := evS r st') hd hi (by rw [evS_cat]; exact hn) (puN_ok h ks ha hS hP hK (fun a e => cst2_ok e) (ivMin_ok (ivA_ok hS _) (ivA_ok hS _)))
        · cases h
      · split at h
        · rename_i e
          rw [if_neg (by omega), if_neg (by omega), if_pos e] at hi
          obtain ⟨x, y, st', e0, h9⟩ := st2_inv h
          clear h
          subst e0
          have h := h9
          clear h9
          split at h
          · rename_i hn
            exact Rn.mmax (st := evS r st') hd hi (by rw [evS_cat]; exact hn) (puN_ok h ks ha hS hP hK (fun a e => cst2_ok e) (ivMax_ok (ivA_ok hS _) (ivA_ok hS _)))
          · cases h
        · split at h
          · rename_i e
            rw [if_neg (by omega), if_neg (by omega), if_neg (by omega), if_pos e] at hi
            obtain ⟨x, st', e0, h9⟩ := st1_inv h
            clear h
            subst e0
            have h := h9
            clear h9
            split at h
            · rename_i hn
              exact Rn.mabs (st := evS r st') hd hi (by rw [evS_cat]; exact hn) (puN_ok h ks ha hS hP hK (fun a e => nomatch e) (ivAbs_ok (ivA_ok hS _)))
            · cases h
          · split at h
            · rename_i e
              rw [if_neg (by omega), if_neg (by omega), if_neg (by omega), if_neg (by omega)] at hi
              exact acN_ok hO hd hi h ks ha hS hP hK
            · cases h
    · cases h
  · -- new
    split at h
    · rename_i q
      split at h
      · rename_i hb
        cases h
        exact hi q (List.mem_singleton.mpr rfl) G d bud _ I Q hb (ke _ (List.mem_singleton.mpr rfl) r I ha hS hP hK)
      · cases h
    · cases h
  · -- ireturn
    obtain rfl : len = 1 := hl.resolve_left Bool.false_ne_true
    split at h
    · rename_i a
      split at h
      · rename_i hn
        cases h
        have hq := ke _ (List.mem_singleton.mpr rfl) r I ha hS hP hK
        rcases hn with hn | ⟨hn, hb⟩
        · exact Rn.iret hd (hr.2.1 hn) hq
        · refine Rn.zret hd (hr.2.2 hn) ?_ hq
          rcases bool_of (subI_ok hb (ivA_ok hS a)) with e | e <;> rw [e] <;> rfl
      · cases h
    · cases h
  · -- return
    obtain rfl : len = 1 := hl.resolve_left Bool.false_ne_true
    split at h
    · split at h
      · rename_i hn
        cases h
        exact Rn.vret hd (hr.1 hn) (ke _ (List.mem_singleton.mpr rfl) r I ha hS hP hK)
      · cases h
    · cases h
  · cases h
end Stk
