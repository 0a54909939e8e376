theorem dX10_lowest_0 : decode cX10_lowest 0 = .ok (.aload_n 0, 1) := by decide +kernel
theorem dX10_lowest_1 : decode cX10_lowest 1 = .ok (.iconst 0, 1) := by decide +kernel
theorem dX10_lowest_2 : decode cX10_lowest 2 = .ok (.putfield 3, 3) := by decide +kernel
theorem dX10_lowest_5 : decode cX10_lowest 5 = .ok (.iload_n 2, 1) := by decide +kernel
theorem dX10_lowest_6 : decode cX10_lowest 6 = .ok (.aload_n 0, 1) := by decide +kernel
theorem dX10_lowest_7 : decode cX10_lowest 7 = .ok (.invokevirtual 362, 3) := by decide +kernel
theorem dX10_lowest_10 : decode cX10_lowest 10 = .ok (.iand, 1) := by decide +kernel
theorem dX10_lowest_11 : decode cX10_lowest 11 = .ok (.istore_n 3, 1) := by decide +kernel
theorem dX10_lowest_12 : decode cX10_lowest 12 = .ok (.iload_n 3, 1) := by decide +kernel
theorem dX10_lowest_13 : decode cX10_lowest 13 = .ok (.invokestatic 342, 3) := by decide +kernel
theorem dX10_lowest_16 : decode cX10_lowest 16 = .ok (.istore 4, 2) := by decide +kernel
theorem dX10_order_0 : decode cX10_order 0 = .ok (.aload_n 0, 1) := by decide +kernel
theorem dX10_order_1 : decode cX10_order 1 = .ok (.iconst 0, 1) := by decide +kernel
theorem dX10_order_2 : decode cX10_order 2 = .ok (.putfield 3, 3) := by decide +kernel
theorem dX10_order_5 : decode cX10_order 5 = .ok (.iload_n 2, 1) := by decide +kernel
theorem dX10_order_6 : decode cX10_order 6 = .ok (.aload_n 0, 1) := by decide +kernel
theorem dX10_order_7 : decode cX10_order 7 = .ok (.invokevirtual 362, 3) := by decide +kernel
theorem dX10_order_10 : decode cX10_order 10 = .ok (.iand, 1) := by decide +kernel
theorem dX10_order_11 : decode cX10_order 11 = .ok (.istore 4, 2) := by decide +kernel
theorem dX10_order_13 : decode cX10_order 13 = .ok (.iload 4, 2) := by decide +kernel
theorem dX10_order_15 : decode cX10_order 15 = .ok (.invokestatic 342, 3) := by decide +kernel
theorem dX10_order_18 : decode cX10_order 18 = .ok (.istore 5, 2) := by decide +kernel
/-! order and lowest of the reference: from their begin to where the set is known -/
theorem okX.thr {X : Hi → Prop} (oX : okX X) {I : Hi} (hX : X I) (v : Int32) : X (zup I 94 0 v) := oX I _ (fun c j hd => by
  by_cases e : c = 94
  · subst e
    rw [zup_at, upd_ne _ _ (fun q => by subst q; exact absurd hd (by decide))]
  · rw [zup_ne _ _ e]) hX
def spEq : Sp → Sp → Bool
  | [], [] => true
  | none :: a, none :: b => spEq a b
  | some (.inl i) :: a, some (.inl j) :: b => decide (i = j) && spEq a b
  | some (.inr i) :: a, some (.inr j) :: b => decide (i = j) && spEq a b
  | _, _ => false
theorem spEq_ok : ∀ {a b : Sp}, spEq a b = true → a = b := by
  intro a
  induction a with
  | nil =>
    intro b h
    cases b with
    | nil => rfl
    | cons y b => exact nomatch h
  | cons x a ih =>
    intro b h
    cases b with
    | nil =>
      cases x with
      | none => exact nomatch h
      | some x => cases x <;> exact nomatch h
    | cons y b =>
      cases x with
      | none =>
        cases y with
        | none => rw [ih (show spEq a b = true from h)]
        | some y => cases y <;> exact nomatch h
      | some x =>
        cases y with
        | none => cases x <;> exact nomatch h
        | some y =>
          cases x with
          | inl i =>
            cases y with
            | inl j =>
              have h : (decide (i = j) && spEq a b) = true := h
              rw [Bool.and_eq_true] at h
              rw [of_decide_eq_true h.1, ih h.2]
            | inr j => exact nomatch h
          | inr i =>
            cases y with
            | inl j => exact nomatch h
            | inr j =>
              have h : (decide (i = j) && spEq a b) = true := h
              rw [Bool.and_eq_true] at h
              rw [of_decide_eq_true h.1, ih h.2]
def cuEq (u : Cu) (pc : Nat) (sp : Sp) (m : Ms × Nat) : Bool := decide (u.1 = pc) && (spEq u.2.1 sp && (u.2.2.1.isEmpty && decide (u.2.2.2 = m)))
theorem cuEq_ok {u : Cu} {pc : Nat} {sp : Sp} {m : Ms × Nat} (h : cuEq u pc sp m = true) : u = (pc, sp, [], m) := by
  obtain ⟨a, b, c, e⟩ := u
  simp only [cuEq, Bool.and_eq_true, decide_eq_true_eq] at h
  obtain ⟨h1, h2, h3, h4⟩ := h
  rw [h1, spEq_ok h2, List.isEmpty_iff.mp h3, h4]
theorem iv_eq {c : Nat} (h : c < 1000) : inIv ((c : Int), (c : Int)) (nI c) := by
  unfold inIv
  rw [nI_toInt (by omega)]
  exact ⟨Int.le_refl _, Int.le_refl _⟩
theorem oh_lowest : ∀ c : Fin 256, (css_239.getD c []).any (fun u => cuEq u 18 [some (.inr (some 94)), some (.inl ivF), some (.inl ivF), some (.inl ((c : Nat), (c : Nat))), some (.inl (popN c, popN c)), none, none] (((2, 100), (2, 0), (2, 8589934592)), 0)) = true := by decide +kernel
section Olowest
variable (G : Gx) (d : Nat) (I : Hi)
theorem mn_lowest {X : Hi → Prop} (oX : okX X) (hM : ManOK G X) (hB : BX I) (hX : X I) (x y : Int32) : Ct G GAM mX10_lowest (d + 9) 0 [.ref 94, .int x, .int y] I (fun o J => (∀ c j, inIv ((hxM [(94, 0, 0), (94, 21, 21), (95, 0, 376), (98, 0, 4999), (102, 0, 4999), (103, 0, 4999), (104, 0, 4)]).1 c j) (J c j)) ∧ X J ∧ Fs (hxM [(94, 0, 0), (94, 21, 21), (95, 0, 376), (98, 0, 4999), (102, 0, 4999), (103, 0, 4999), (104, 0, 4)]).2.2.2 I J ∧ ∃ p ∈ ct_239.2.2.2.2.2.2, resM o p.1 ∧ faM J p.2) := by
  refine Ct.mk [some (.ref 94), some (.int x), some (.int y), none, none, none, none] ?_
  obtain ⟨W, hW, h0⟩ := nI_iv (n := 8) (show inIv (0, 8) (I 95 0) from hB 95 0)
  obtain ⟨c, hc, hcx⟩ := andN y (2 ^ W - 1) (mskL ⟨W, by omega⟩)
  refine Rn.aload_n dX10_lowest_0 rfl rfl ?_
  refine Rn.iconst (v := (nI 0)) dX10_lowest_1 rfl ?_
  refine Rn.putI dX10_lowest_2 fp_X10_3_9 (by first | rfl | exact gC0 (by assumption) | exact gL0 (by assumption)) rfl ?_
  refine Rn.iload_n dX10_lowest_5 rfl rfl ?_
  refine Rn.aload_n dX10_lowest_6 rfl rfl ?_
  refine Rn.callVp (As := []) dX10_lowest_7 mv_X10_362 (by first | rfl | exact gC0 (by assumption) | exact gL0 (by assumption)) rfl rfl rfl (Nat.le_of_ble_eq_true rfl) (ct_allWomen G _ _) ?_
  refine Rn.topI (nI (2 ^ W - 1)) (by rw [zup_ne _ _ (by decide), h0]; exact mskN ⟨W, by omega⟩) ?_
  refine Rn.iand dX10_lowest_10 ?_
  refine Rn.topI (nI c) hcx ?_
  refine Rn.istore_n dX10_lowest_11 rfl (by decide) ?_
  refine Rn.iload_n dX10_lowest_12 rfl rfl ?_
  refine Rn.callSp (As := [_]) dX10_lowest_13 ms_X10_342 rfl rfl (Nat.le_of_ble_eq_true rfl) (ct_bitCount G _ _ _) ?_
  refine Rn.topI (nI (popN c)) (bcV_N ⟨c, hc⟩) ?_
  refine Rn.istore dX10_lowest_16 (by decide) ?_
  have h8 : popN c ≤ 8 := Nat.le_trans (List.length_filter_le _ _) (by simp)
  obtain ⟨u, hu1, hu2⟩ := List.any_eq_true.mp (oh_lowest ⟨c, hc⟩)
  have hu2 := cuEq_ok hu2
  have hu1 : u ∈ css_239.getD c [] := hu1
  have hmem : u ∈ css_239.flatten := by
    refine List.mem_flatten.mpr ⟨css_239.getD c [], ?_, hu1⟩
    by_cases hl : c < css_239.length
    · rw [List.getD_eq_getElem?_getD, List.getElem?_eq_getElem hl]
      exact List.getElem_mem hl
    · rw [List.getD_eq_getElem?_getD, List.getElem?_eq_none (by omega)] at hu1
      exact nomatch hu1
  subst hu2
  have hr := cut_ok3 ct_239 css_239 (oX.ok [(94, 0, 0), (94, 21, 21), (95, 0, 376), (98, 0, 4999), (102, 0, 4999), (103, 0, 4999), (104, 0, 4)]) okMcL (os_239 (G := G) oX hM (man_laysRow oX)) d I (mu3 (fun v => if v = 1 then x else if v = 2 then y else if v = 3 then nI c else if v = 4 then nI (popN c) else 0) ((2, 100), (2, 0), (2, 8589934592)) + 1) _ hmem (fun v => if v = 1 then x else if v = 2 then y else if v = 3 then nI c else if v = 4 then nI (popN c) else 0) (zup I 94 0 (nI 0)) ?_ ⟨BX.thr hB _, oX.thr hX _, Fs_up (lo := 0) (hi := 0) (by decide) (by decide) (by decide)⟩ (fun e he => nomatch he) (Nat.lt_succ_self _)
  · have e : ct_239.2.1 + d = d + 9 := Nat.add_comm 9 d
    rw [e] at hr
    simp only [spL, evL, evV, List.map_cons, List.map_nil, Option.map_some, Option.map_none, evI_v] at hr
    exact hr
  · intro v i hi
    rcases v with _ | _ | _ | _ | _ | _ | _ | v
    all_goals simp [spG] at hi
    all_goals first | (subst hi; exact inIv_F _) | (subst hi; exact iv_eq (by omega)) | skip
end Olowest
theorem oh_order : ∀ c : Fin 256, (css_238.getD c []).any (fun u => cuEq u 20 [some (.inr (some 94)), some (.inl ivF), some (.inl ivF), some (.inl ivF), some (.inl ((c : Nat), (c : Nat))), some (.inl (popN c, popN c)), none, none, none, none] (((2, 100), (2, 0), (2, 8589934592)), 0)) = true := by decide +kernel
section Oorder
variable (G : Gx) (d : Nat) (I : Hi)
theorem mn_order {X : Hi → Prop} (oX : okX X) (hM : ManOK G X) (hB : BX I) (hX : X I) (x y z : Int32) : Ct G GAM mX10_order (d + 9) 0 [.ref 94, .int x, .int y, .int z] I (fun o J => (∀ c j, inIv ((hxM [(94, 0, 0), (94, 21, 21), (95, 0, 376), (98, 0, 4999), (102, 0, 4999), (103, 0, 4999), (104, 0, 4), (105, 0, 4)]).1 c j) (J c j)) ∧ X J ∧ Fs (hxM [(94, 0, 0), (94, 21, 21), (95, 0, 376), (98, 0, 4999), (102, 0, 4999), (103, 0, 4999), (104, 0, 4), (105, 0, 4)]).2.2.2 I J ∧ ∃ p ∈ ct_238.2.2.2.2.2.2, resM o p.1 ∧ faM J p.2) := by
  refine Ct.mk [some (.ref 94), some (.int x), some (.int y), some (.int z), none, none, none, none, none, none] ?_
  obtain ⟨W, hW, h0⟩ := nI_iv (n := 8) (show inIv (0, 8) (I 95 0) from hB 95 0)
  obtain ⟨c, hc, hcx⟩ := andN y (2 ^ W - 1) (mskL ⟨W, by omega⟩)
  refine Rn.aload_n dX10_order_0 rfl rfl ?_
  refine Rn.iconst (v := (nI 0)) dX10_order_1 rfl ?_
  refine Rn.putI dX10_order_2 fp_X10_3_9 (by first | rfl | exact gC0 (by assumption) | exact gL0 (by assumption)) rfl ?_
  refine Rn.iload_n dX10_order_5 rfl rfl ?_
  refine Rn.aload_n dX10_order_6 rfl rfl ?_
  refine Rn.callVp (As := []) dX10_order_7 mv_X10_362 (by first | rfl | exact gC0 (by assumption) | exact gL0 (by assumption)) rfl rfl rfl (Nat.le_of_ble_eq_true rfl) (ct_allWomen G _ _) ?_
  refine Rn.topI (nI (2 ^ W - 1)) (by rw [zup_ne _ _ (by decide), h0]; exact mskN ⟨W, by omega⟩) ?_
  refine Rn.iand dX10_order_10 ?_
  refine Rn.topI (nI c) hcx ?_
  refine Rn.istore dX10_order_11 (by decide) ?_
  refine Rn.iload dX10_order_13 rfl ?_
  refine Rn.callSp (As := [_]) dX10_order_15 ms_X10_342 rfl rfl (Nat.le_of_ble_eq_true rfl) (ct_bitCount G _ _ _) ?_
  refine Rn.topI (nI (popN c)) (bcV_N ⟨c, hc⟩) ?_
  refine Rn.istore dX10_order_18 (by decide) ?_
  have h8 : popN c ≤ 8 := Nat.le_trans (List.length_filter_le _ _) (by simp)
  obtain ⟨u, hu1, hu2⟩ := List.any_eq_true.mp (oh_order ⟨c, hc⟩)
  have hu2 := cuEq_ok hu2
  have hu1 : u ∈ css_238.getD c [] := hu1
  have hmem : u ∈ css_238.flatten := by
    refine List.mem_flatten.mpr ⟨css_238.getD c [], ?_, hu1⟩
    by_cases hl : c < css_238.length
    · rw [List.getD_eq_getElem?_getD, List.getElem?_eq_getElem hl]
      exact List.getElem_mem hl
    · rw [List.getD_eq_getElem?_getD, List.getElem?_eq_none (by omega)] at hu1
      exact nomatch hu1
  subst hu2
  have hr := cut_ok3 ct_238 css_238 (oX.ok [(94, 0, 0), (94, 21, 21), (95, 0, 376), (98, 0, 4999), (102, 0, 4999), (103, 0, 4999), (104, 0, 4), (105, 0, 4)]) okMcL (os_238 (G := G) oX hM (man_laysRow oX)) d I (mu3 (fun v => if v = 1 then x else if v = 2 then y else if v = 3 then z else if v = 4 then nI c else if v = 5 then nI (popN c) else 0) ((2, 100), (2, 0), (2, 8589934592)) + 1) _ hmem (fun v => if v = 1 then x else if v = 2 then y else if v = 3 then z else if v = 4 then nI c else if v = 5 then nI (popN c) else 0) (zup I 94 0 (nI 0)) ?_ ⟨BX.thr hB _, oX.thr hX _, Fs_up (lo := 0) (hi := 0) (by decide) (by decide) (by decide)⟩ (fun e he => nomatch he) (Nat.lt_succ_self _)
  · have e : ct_238.2.1 + d = d + 9 := Nat.add_comm 9 d
    rw [e] at hr
    simp only [spL, evL, evV, List.map_cons, List.map_nil, Option.map_some, Option.map_none, evI_v] at hr
    exact hr
  · intro v i hi
    rcases v with _ | _ | _ | _ | _ | _ | _ | _ | _ | _ | v
    all_goals simp [spG] at hi
    all_goals first | (subst hi; exact inIv_F _) | (subst hi; exact iv_eq (by omega)) | skip
end Oorder
