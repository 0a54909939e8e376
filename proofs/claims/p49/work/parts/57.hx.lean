set_option maxRecDepth 20000 in
theorem okMcL : okMc mtL mcL := okMc_of (List.forall_mem_cons.mpr ⟨op_X9_feed, List.forall_mem_cons.mpr ⟨op_X9_end, List.forall_mem_cons.mpr ⟨op_X9_coast, List.forall_mem_cons.mpr ⟨op_X9_law, List.forall_mem_cons.mpr ⟨op_X9_fault, List.forall_mem_cons.mpr ⟨op_X9_woman, List.forall_mem_cons.mpr ⟨op_X9_thing, List.forall_mem_cons.mpr ⟨op_X9_gain, List.forall_mem_cons.mpr ⟨op_X9_flows, List.forall_mem_cons.mpr ⟨op_X9_lend, List.forall_mem_cons.mpr ⟨op_X9_wed, List.forall_mem_cons.mpr ⟨op_X9_pawn, List.forall_mem_cons.mpr ⟨op_X9_redeem, List.forall_mem_cons.mpr ⟨op_X9_cut, List.forall_mem_cons.mpr ⟨op_X9_widow, List.forall_mem_cons.mpr ⟨op_X9_days, List.forall_mem_cons.mpr ⟨op_X9_best, List.forall_mem_cons.mpr ⟨op_X9_order, List.forall_mem_cons.mpr ⟨op_X9_lowest, List.forall_mem_cons.mpr ⟨op_X9_reach, List.forall_mem_cons.mpr ⟨op_X9_chain, List.forall_mem_cons.mpr ⟨op_X9_since, List.forall_mem_cons.mpr ⟨op_X9_whose, List.forall_mem_cons.mpr ⟨op_X9_next, List.forall_mem_cons.mpr ⟨op_X9_match, List.forall_mem_cons.mpr ⟨op_X9_rests, List.forall_mem_cons.mpr ⟨op_X9_sells, List.forall_mem_cons.mpr ⟨op_X9_dearest, List.forall_mem_cons.mpr ⟨op_X9_unlucky, List.forall_mem_cons.mpr ⟨op_X9_luckiest, List.forall_mem_cons.mpr ⟨op_X9_ring, List.forall_mem_cons.mpr ⟨op_X9_runs, List.forall_mem_cons.mpr ⟨op_X9_spent, List.forall_mem_cons.mpr ⟨op_X9_oldest, List.forall_mem_cons.mpr ⟨op_X9_stuck, List.forall_mem_cons.mpr ⟨op_X9_pawned, List.forall_mem_cons.mpr ⟨op_X9_blue, List.forall_mem_cons.mpr ⟨op_X9_alike, List.forall_mem_cons.mpr ⟨op_X9_share, List.forall_mem_cons.mpr ⟨op_X9_odds, List.forall_mem_cons.mpr ⟨op_X9_trial, List.forall_mem_cons.mpr ⟨op_X9_span, List.forall_mem_cons.mpr ⟨op_X9_led, List.forall_mem_cons.mpr ⟨op_X9_log, List.forall_mem_cons.mpr ⟨op_X9_seed, List.forall_mem_cons.mpr ⟨op_X9_undo, List.forall_mem_cons.mpr ⟨op_X9_image, List.forall_mem_cons.mpr ⟨op_X9_back, List.forall_mem_cons.mpr ⟨op_X9_count, List.forall_mem_cons.mpr ⟨op_X8_put, List.forall_mem_cons.mpr ⟨op_X0_copyFrom, List.forall_mem_cons.mpr ⟨op_X4_readsText, List.forall_mem_cons.mpr ⟨op_X9_noteReading, List.forall_mem_cons.mpr ⟨op_X5_forget, List.forall_mem_cons.mpr ⟨op_X2_clear, List.forall_mem_cons.mpr ⟨op_X2_copyFrom, List.forall_mem_cons.mpr ⟨op_X9_needWoman, List.forall_mem_cons.mpr ⟨op_X0_her, List.forall_mem_cons.mpr ⟨op_X0_thingsWith, List.forall_mem_cons.mpr ⟨op_X0_herLuck, List.forall_mem_cons.mpr ⟨op_X9_needThing, List.forall_mem_cons.mpr ⟨op_X0_its, List.forall_mem_cons.mpr ⟨op_X0_worth, List.forall_mem_cons.mpr ⟨op_X6_gainOf, List.forall_mem_cons.mpr ⟨op_X9_needSort, List.forall_mem_cons.mpr ⟨op_X2_sum, List.forall_mem_cons.mpr ⟨op_X9_mayBeLent, List.forall_mem_cons.mpr ⟨op_X5_remember, List.forall_mem_cons.mpr ⟨op_X0_setIts, List.forall_mem_cons.mpr ⟨op_X6_marry, List.forall_mem_cons.mpr ⟨op_X0_addRow, List.forall_mem_cons.mpr ⟨op_X0_setHer, List.forall_mem_cons.mpr ⟨op_X0_itsLuck, List.forall_mem_cons.mpr ⟨op_X6_passDays, List.forall_mem_cons.mpr ⟨op_X0_isFree, List.forall_mem_cons.mpr ⟨op_X9_gatherFive, List.forall_mem_cons.mpr ⟨op_X7_greatestOfRows, List.forall_mem_cons.mpr ⟨op_X7_bestAt, List.forall_mem_cons.mpr ⟨op_X0_logged, List.forall_mem_cons.mpr ⟨op_X9_takeFitting, List.forall_mem_cons.mpr ⟨op_J6_bitCount_0f7a4, List.forall_mem_cons.mpr ⟨op_X0_greatestPart, List.forall_mem_cons.mpr ⟨op_X7_greatestMatch, List.forall_mem_cons.mpr ⟨op_J9_floorDiv_7cf53, List.forall_mem_cons.mpr ⟨op_X9_widowHas, List.forall_mem_cons.mpr ⟨op_X9_brideHas, List.forall_mem_cons.mpr ⟨op_X0_soldFor, List.forall_mem_cons.mpr ⟨op_X0_borrowerFrom, List.forall_mem_cons.mpr ⟨op_X6_marryInTurn, List.forall_mem_cons.mpr ⟨op_X0_areAlike, List.forall_mem_cons.mpr ⟨op_X0_comesByDay, List.forall_mem_cons.mpr ⟨op_X9_needTrialDays, List.forall_mem_cons.mpr ⟨op_X0_luckOfWomen, List.forall_mem_cons.mpr ⟨op_X0_row, List.forall_mem_cons.mpr ⟨op_X5_bringBack, List.forall_mem_cons.mpr ⟨op_X0_luckOfThings, List.forall_mem_cons.mpr ⟨op_X0_womenWith, List.forall_mem_cons.mpr ⟨op_X8_begin, List.forall_mem_cons.mpr ⟨op_X8_isAtEnd, List.forall_mem_cons.mpr ⟨op_X1_readsLine, List.forall_mem_cons.mpr ⟨op_X3_readsLine, List.forall_mem_cons.mpr ⟨op_X8_takesSign, List.forall_mem_cons.mpr ⟨op_X6_comes, List.forall_mem_cons.mpr ⟨op_X2_learn, List.forall_mem_cons.mpr ⟨op_X2_holds, List.forall_mem_cons.mpr ⟨op_X2_sticks, List.forall_mem_cons.mpr ⟨op_X2_wears, List.forall_mem_cons.mpr ⟨op_X0_draw, List.forall_mem_cons.mpr ⟨op_X7_gather, List.forall_mem_cons.mpr ⟨op_X7_leastLuck, List.forall_mem_cons.mpr ⟨op_X7_goesToNextRow, List.forall_mem_cons.mpr ⟨op_X8_tellsLuck, List.forall_mem_cons.mpr ⟨op_X9_fitting, List.forall_mem_cons.mpr ⟨op_X7_place, List.forall_mem_cons.mpr ⟨op_X8_step, List.forall_mem_cons.mpr ⟨op_X8_takesWord, List.forall_mem_cons.mpr ⟨op_X1_readsWoman, List.forall_mem_cons.mpr ⟨op_X1_readsThing, List.forall_mem_cons.mpr ⟨op_X8_takeNumber, List.forall_mem_cons.mpr ⟨op_X2_addLine, List.forall_mem_cons.mpr ⟨op_X3_readsAny, List.forall_mem_cons.mpr ⟨op_X2_joined, List.forall_mem_cons.mpr ⟨op_X7_swap, List.forall_mem_cons.mpr ⟨op_X8_byteAt, List.forall_mem_cons.mpr ⟨op_X1_readsHer, List.forall_mem_cons.mpr ⟨op_X1_readsIts, List.forall_mem_cons.mpr ⟨op_X3_readsAll, List.forall_mem_cons.mpr ⟨op_X2_addStep, List.forall_mem_cons.mpr ⟨op_X3_readsAtom, List.forall_mem_cons.mpr ⟨op_X3_traitOf, List.forall_mem_cons.mpr ⟨op_X3_readsSum, List.forall_mem_cons.mpr ⟨op_X3_partOf, fun _ h => nomatch h⟩⟩⟩⟩⟩⟩⟩⟩⟩⟩⟩⟩⟩⟩⟩⟩⟩⟩⟩⟩⟩⟩⟩⟩⟩⟩⟩⟩⟩⟩⟩⟩⟩⟩⟩⟩⟩⟩⟩⟩⟩⟩⟩⟩⟩⟩⟩⟩⟩⟩⟩⟩⟩⟩⟩⟩⟩⟩⟩⟩⟩⟩⟩⟩⟩⟩⟩⟩⟩⟩⟩⟩⟩⟩⟩⟩⟩⟩⟩⟩⟩⟩⟩⟩⟩⟩⟩⟩⟩⟩⟩⟩⟩⟩⟩⟩⟩⟩⟩⟩⟩⟩⟩⟩⟩⟩⟩⟩⟩⟩⟩⟩⟩⟩⟩⟩⟩⟩⟩⟩⟩⟩⟩⟩⟩⟩⟩⟩⟩⟩⟩⟩)
/-! what may stand in the heap's cells -/
def wbx (p : Nat) : Iv :=
  if p < 2 then (0, 8) else if p = 7 then (0, 60) else if p < 9 then ivF
  else if p < 65 then (if (p - 9) % 7 < 4 then (0, 99) else ivF)
  else if p < 137 then (if (p - 65) % 9 < 4 then (0, 99) else if (p - 65) % 9 = 4 then (0, 7) else if (p - 65) % 9 = 5 then (-1, 7) else ivF)
  else ivF
def hxB (c j : Nat) : Iv :=
  if c < 94 then (if c = 39 ∧ j = 2 then (0, 8) else if c = 1 ∧ j = 1 then (0, 400) else ivF)
  else if c = 94 then (if j = 7 then (0, 12) else if j = 9 then (0, 400) else ivF)
  else if c < 99 then (if j < 377 then wbx j else ivF)
  else if c = 99 then wbx (j % 377)
  else if c = 104 then (0, 7)
  else ivF
def hxT (c : Nat) : Bool := (Nat.blt c 94 && (!Nat.beq c 1 && !Nat.beq c 39)) || (Nat.ble 100 c && !Nat.beq c 104)
def hxD (c j : Nat) : Bool := (Nat.ble 95 c && Nat.ble c 97) && (Nat.beq j 3 || (Nat.ble 377 j && Nat.blt j 1226))
def hxM (S : List (Nat × Nat × Nat)) : Hx := (hxB, hxT, hxD, S)
/-- what else is known: it hangs on the places hxD alone -/
def okX (X : Hi → Prop) : Prop := ∀ I J : Hi, (∀ c j, hxD c j = true → J c j = I c j) → X I → X J
theorem hxT_ok {c : Nat} (h : hxT c = true) (j : Nat) : hxB c j = ivF ∧ hxD c j = false := by
  have h2 : (c < 94 ∧ c ≠ 1 ∧ c ≠ 39) ∨ (100 ≤ c ∧ c ≠ 104) := by
    simp only [hxT, Bool.or_eq_true, Bool.and_eq_true, Bool.not_eq_true', Nat.blt_eq, Nat.ble_eq] at h
    exact h.imp (fun q => ⟨q.1, Nat.ne_of_beq_eq_false q.2.1, Nat.ne_of_beq_eq_false q.2.2⟩) (fun q => ⟨q.1, Nat.ne_of_beq_eq_false q.2⟩)
  constructor
  · unfold hxB
    rcases h2 with ⟨h3, h4, h5⟩ | ⟨h3, h4⟩
    · rw [if_pos h3, if_neg (fun q => h5 q.1), if_neg (fun q => h4 q.1)]
    · rw [if_neg (by omega), if_neg (by omega), if_neg (by omega), if_neg (by omega), if_neg (by omega)]
  · unfold hxD
    rcases h2 with ⟨h3, h4, h5⟩ | ⟨h3, h4⟩
    · have : Nat.ble 95 c = false := by
        cases e : Nat.ble 95 c with
        | false => rfl
        | true => have := Nat.le_of_ble_eq_true e; omega
      rw [this]; rfl
    · have : Nat.ble c 97 = false := by
        cases e : Nat.ble c 97 with
        | false => rfl
        | true => have := Nat.le_of_ble_eq_true e; omega
      rw [this, Bool.and_false]; rfl
theorem okX.ok {X : Hi → Prop} (hX : okX X) (S : List (Nat × Nat × Nat)) : hxOK (hxM S) X := by
  refine ⟨fun c h j => hxT_ok h j, fun I c j v hd h => hX I _ (fun c' j' hd' => ?_) h, fun I c f hd h => hX I _ (fun c' j' hd' => ?_) h⟩
  · by_cases e : c' = c
    · subst e
      by_cases e2 : j' = j
      · subst e2
        exact absurd (hd'.symm.trans hd) (by decide)
      · show (if c' = c' then upd (I c') j v else I c') j' = _
        rw [if_pos rfl]
        simp only [upd, e2]
        rfl
    · show (if c' = c then upd (I c) j v else I c') j' = _
      rw [if_neg e]
  · by_cases e : c' = c
    · subst e
      exact absurd (hd'.symm.trans (hd j')) (by decide)
    · show (if c' = c then f else I c') j' = _
      rw [if_neg e]
