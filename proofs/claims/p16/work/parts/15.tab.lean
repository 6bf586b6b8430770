/-! tables of the abstract walk; own -/
def mtL : List MI := [(yX0_forgets, cX0_forgets, 1, none), (yX0_personNamed, cX0_personNamed, 4, (some .int)), (yX0_dishNamed, cX0_dishNamed, 4, (some .int)), (yX0_isSick, cX0_isSick, 3, (some .boolean)), (yX0_everybody, cX0_everybody, 1, (some .int)), (yX0_costBy, cX0_costBy, 3, (some .int)), (yX0_gift, cX0_gift, 5, (some .int)), (yX0_giftAbroad, cX0_giftAbroad, 3, (some .int)), (yX0_giftAt, cX0_giftAt, 3, (some .int)), (yX0_settleGifts, cX0_settleGifts, 3, none), (yX0_settleBeaten, cX0_settleBeaten, 5, none), (yX0_isNoWorse, cX0_isNoWorse, 4, (some .boolean)), (yX0_settleGiftsOf, cX0_settleGiftsOf, 6, none), (yX0_byKind, cX0_byKind, 3, (some .int)), (yX0_cupsInAll, cX0_cupsInAll, 3, (some .int)), (yX0_reached, cX0_reached, 6, (some .int)), (yX0_votesOf, cX0_votesOf, 4, (some .int)), (yX1_reads, cX1_reads, 5, (some .boolean)), (yX1_readsPerson, cX1_readsPerson, 3, (some .boolean)), (yX1_takesNewName, cX1_takesNewName, 3, (some .boolean)), (yX1_takesKind, cX1_takesKind, 3, (some .boolean)), (yX1_readsDish, cX1_readsDish, 3, (some .boolean)), (yX1_readsCup, cX1_readsCup, 4, (some .boolean)), (yX1_readsSick, cX1_readsSick, 3, (some .boolean)), (yX1_readsStore, cX1_readsStore, 3, (some .boolean)), (yX1_readsRest, cX1_readsRest, 3, (some .boolean)), (yX1_readsShare, cX1_readsShare, 3, (some .boolean)), (yX2_howManyTold, cX2_howManyTold, 3, (some .int)), (yX2_isTold, cX2_isTold, 2, (some .boolean)), (yX2_weighs, cX2_weighs, 6, none), (yX2_agrees, cX2_agrees, 8, (some .boolean)), (yX2_fullAbroad, cX2_fullAbroad, 4, (some .int)), (yX2_whomToAsk, cX2_whomToAsk, 9, (some .int)), (yX3_becomesUsual, cX3_becomesUsual, 1, none), (yX3_reads, cX3_reads, 5, (some .boolean)), (yX3_partOn, cX3_partOn, 1, (some .int)), (yX3_jointOn, cX3_jointOn, 1, (some .int)), (yX3_bindingOf, cX3_bindingOf, 1, (some .int)), (yX3_takesPart, cX3_takesPart, 2, none), (yX3_takesJoint, cX3_takesJoint, 3, (some .boolean)), (yX3_closes, cX3_closes, 1, none), (yX3_lastWaiting, cX3_lastWaiting, 1, (some .int)), (yX3_settleNots, cX3_settleNots, 1, none), (yX3_settleJoints, cX3_settleJoints, 3, none), (yX3_addStep, cX3_addStep, 2, none), (yX3_addWaiting, cX3_addWaiting, 2, none), (yX3_facesDish, cX3_facesDish, 3, none), (yX3_share, cX3_share, 4, (some .int)), (yX3_worked, cX3_worked, 4, (some .int)), (yX3_joined, cX3_joined, 3, (some .int)), (yX3_truth, cX3_truth, 1, (some .int)), (yX4_lays, cX4_lays, 4, none), (yX4_goesBack, cX4_goesBack, 4, none), (yX5_pairs, cX5_pairs, 3, none), (yX5_pairRest, cX5_pairRest, 9, none), (yX6_parts, cX6_parts, 5, none), (yX6_worthOf, cX6_worthOf, 5, (some .int)), (yX6_worthBy, cX6_worthBy, 6, (some .int)), (yX6_seat, cX6_seat, 4, none), (yX6_keepIfBetter, cX6_keepIfBetter, 4, none), (yX7_finds, cX7_finds, 4, (some .boolean)), (yX7_search, cX7_search, 7, none), (yX7_eaterOf, cX7_eaterOf, 1, (some .int)), (yX7_dishOf, cX7_dishOf, 1, (some .int)), (yX7_isSlow, cX7_isSlow, 1, (some .boolean)), (yX7_costOf, cX7_costOf, 6, (some .int)), (yX7_feedsAll, cX7_feedsAll, 7, (some .boolean)), (yX7_chooses, cX7_chooses, 5, none), (yX8_begins, cX8_begins, 2, none), (yX8_copies, cX8_copies, 2, none), (yX8_copiesDay, cX8_copiesDay, 2, none), (yX8_sits, cX8_sits, 3, (some .boolean)), (yX8_whoSits, cX8_whoSits, 4, (some .int)), (yX8_canEat, cX8_canEat, 4, (some .boolean)), (yX8_wouldBeIll, cX8_wouldBeIll, 3, (some .boolean)), (yX8_gain, cX8_gain, 6, (some .int)), (yX8_takesMeal, cX8_takesMeal, 7, (some .boolean)), (yX8_eatsAbroad, cX8_eatsAbroad, 4, none), (yX8_fill, cX8_fill, 3, none), (yX8_endsDay, cX8_endsDay, 4, (some .int)), (yX9_addBytes, cX9_addBytes, 6, none), (yX9_rewind, cX9_rewind, 1, none), (yX9_takesToken, cX9_takesToken, 1, none), (yX9_takesLetters, cX9_takesLetters, 1, none), (yX9_takesDigits, cX9_takesDigits, 1, none), (yX9_isBlank, cX9_isBlank, 1, (some .boolean)), (yX9_isLetter, cX9_isLetter, 1, (some .boolean)), (yX9_isDigit, cX9_isDigit, 1, (some .boolean)), (yX9_withLetter, cX9_withLetter, 3, (some .long)), (yX9_isWord, cX9_isWord, 5, (some .boolean)), (yX9_isSign, cX9_isSign, 2, (some .boolean)), (yX9_isName, cX9_isName, 5, (some .boolean)), (yX9_wrong, cX9_wrong, 2, (some .boolean)), (yX9_takesWord, cX9_takesWord, 2, (some .boolean)), (yX9_takesEnd, cX9_takesEnd, 1, (some .boolean)), (yX9_takesNumber, cX9_takesNumber, 3, (some .boolean)), (yX9_takesNumberOf, cX9_takesNumberOf, 3, (some .boolean)), (yX9_takesName, cX9_takesName, 1, (some .boolean)), (yX9_takesPerson, cX9_takesPerson, 2, (some .boolean)), (yX9_takesDish, cX9_takesDish, 2, (some .boolean)), (yX10_copies, cX10_copies, 2, none), (yX10_reads, cX10_reads, 4, (some .boolean)), (yX10_readsLine, cX10_readsLine, 5, (some .boolean)), (yX10_takesWhoAndWhat, cX10_takesWhoAndWhat, 3, (some .boolean)), (yX10_takesHow, cX10_takesHow, 3, (some .boolean)), (yX10_happens, cX10_happens, 6, (some .int)), (yX11_feed, cX11_feed, 7, (some .int)), (yX11_commune, cX11_commune, 2, (some .int)), (yX11_weeks, cX11_weeks, 2, (some .int)), (yX11_person, cX11_person, 3, (some .int)), (yX11_dish, cX11_dish, 3, (some .int)), (yX11_would, cX11_would, 5, (some .int)), (yX11_eat, cX11_eat, 5, (some .int)), (yX11_abroad, cX11_abroad, 3, (some .int)), (yX11_fast, cX11_fast, 1, (some .int)), (yX11_undo, cX11_undo, 1, (some .boolean)), (yX11_judged, cX11_judged, 5, (some .int)), (yX11_plan, cX11_plan, 3, (some .int)), (yX11_tables, cX11_tables, 3, (some .int)), (yX11_last, cX11_last, 5, (some .int)), (yX11_tell, cX11_tell, 3, (some .boolean)), (yX11_sets, cX11_sets, 3, (some .int)), (yX11_stop, cX11_stop, 8, (some .int)), (yX11_power, cX11_power, 7, (some .int)), (yX11_couples, cX11_couples, 2, (some .int)), (yX11_rests, cX11_rests, 5, (some .int)), (yX11_years, cX11_years, 8, (some .int)), (yX11_mark, cX11_mark, 3, (some .boolean)), (yX11_count, cX11_count, 2, (some .int)), (yX11_isPerson, cX11_isPerson, 2, (some .boolean)), (yX11_isDish, cX11_isDish, 2, (some .boolean)), (yX11_canBeMeal, cX11_canBeMeal, 3, (some .boolean)), (yX11_beginAnew, cX11_beginAnew, 2, none), (yX11_remember, cX11_remember, 1, none), (yX11_nextWell, cX11_nextWell, 5, (some .int)), (yX11_findRests, cX11_findRests, 6, (some .int)), (yX11_isBestFor, cX11_isBestFor, 6, (some .boolean)), (yX11_greedGain, cX11_greedGain, 4, (some .int)), (yX11_nextDraw, cX11_nextDraw, 2, (some .long)), (yX11_drawBelow, cX11_drawBelow, 3, (some .int)), (yX11_drawsMeal, cX11_drawsMeal, 8, (some .long)), (yX11_sum, cX11_sum, 4, (some .int)), (yX12_feed, cX12_feed, 11, (some .int)), (yX12_within, cX12_within, 3, (some .boolean)), (yX12_between, cX12_between, 3, (some .int)), (yX12_away, cX12_away, 2, (some .int)), (yX12_bits, cX12_bits, 3, (some .int)), (yX12_feed, cX12_feed, 11, (some .int)), (yX12_signAt, cX12_signAt, 2, (some .int)), (yX12_nextToken, cX12_nextToken, 2, none), (yX12_isWord, cX12_isWord, 3, (some .boolean)), (yX12_isSign, cX12_isSign, 2, (some .boolean)), (yX12_fails, cX12_fails, 2, (some .boolean)), (yX12_puts, cX12_puts, 2, none), (yX12_fact, cX12_fact, 1, (some .int)), (yX12_reads, cX12_reads, 6, (some .boolean)), (yX12_opens, cX12_opens, 2, none), (yX12_sums, cX12_sums, 2, none), (yX12_tests, cX12_tests, 3, none), (yX12_worked, cX12_worked, 6, (some .int)), (yX12_isKept, cX12_isKept, 1, (some .boolean)), (yX12_personNamed, cX12_personNamed, 3, (some .int)), (yX12_dishNamed, cX12_dishNamed, 3, (some .int)), (yX12_needsNumber, cX12_needsNumber, 3, (some .boolean)), (yX12_needsWord, cX12_needsWord, 3, (some .boolean)), (yX12_needsBoth, cX12_needsBoth, 5, (some .boolean)), (yX12_closes, cX12_closes, 1, (some .boolean)), (yX12_needsNew, cX12_needsNew, 1, (some .boolean)), (yX12_needsPerson, cX12_needsPerson, 2, (some .boolean)), (yX12_needsDish, cX12_needsDish, 2, (some .boolean)), (yX12_isTwice, cX12_isTwice, 2, (some .boolean)), (yX12_readsPerson, cX12_readsPerson, 2, (some .boolean)), (yX12_readsDish, cX12_readsDish, 2, (some .boolean)), (yX12_readsCup, cX12_readsCup, 3, (some .boolean)), (yX12_readsSick, cX12_readsSick, 3, (some .boolean)), (yX12_readsOne, cX12_readsOne, 3, (some .boolean)), (yX12_readsShare, cX12_readsShare, 1, (some .boolean)), (yX12_starts, cX12_starts, 1, none), (yX12_readsAll, cX12_readsAll, 2, (some .boolean)), (yX12_moves, cX12_moves, 3, none), (yX12_movesNames, cX12_movesNames, 3, none), (yX12_lays, cX12_lays, 1, none), (yX12_copies, cX12_copies, 5, none), (yX12_readsMeal, cX12_readsMeal, 2, (some .boolean)), (yX12_readsLine, cX12_readsLine, 3, (some .boolean)), (yX12_laysLines, cX12_laysLines, 4, none), (yX12_laysTold, cX12_laysTold, 4, none), (yX12_fresh, cX12_fresh, 2, none), (yX12_forgets, cX12_forgets, 2, none), (yX12_commune, cX12_commune, 2, (some .int)), (yX12_weeks, cX12_weeks, 1, (some .int)), (yX12_isPerson, cX12_isPerson, 2, (some .boolean)), (yX12_isDish, cX12_isDish, 2, (some .boolean)), (yX12_isSick, cX12_isSick, 2, (some .boolean)), (yX12_sitting, cX12_sitting, 3, (some .int)), (yX12_costOf, cX12_costOf, 3, (some .int)), (yX12_canEat, cX12_canEat, 3, (some .boolean)), (yX12_wouldBeIll, cX12_wouldBeIll, 2, (some .boolean)), (yX12_lawOf, cX12_lawOf, 8, (some .int)), (yX12_shareOf, cX12_shareOf, 6, (some .int)), (yX12_fills, cX12_fills, 3, none), (yX12_ends, cX12_ends, 3, none), (yX12_eats, cX12_eats, 7, (some .boolean)), (yX12_aloneOf, cX12_aloneOf, 3, (some .int)), (yX12_person, cX12_person, 3, (some .int)), (yX12_dish, cX12_dish, 3, (some .int)), (yX12_would, cX12_would, 5, (some .int)), (yX12_keeps, cX12_keeps, 2, none), (yX12_eat, cX12_eat, 4, (some .int)), (yX12_abroad, cX12_abroad, 3, (some .int)), (yX12_fast, cX12_fast, 1, (some .int)), (yX12_undo, cX12_undo, 1, (some .boolean)), (yX12_goes, cX12_goes, 2, (some .boolean)), (yX12_judged, cX12_judged, 6, (some .int)), (yX12_planOf, cX12_planOf, 11, (some .int)), (yX12_plan, cX12_plan, 4, (some .int)), (yX12_laysShares, cX12_laysShares, 6, none), (yX12_seats, cX12_seats, 5, none), (yX12_tables, cX12_tables, 3, (some .int)), (yX12_nextEater, cX12_nextEater, 5, (some .int)), (yX12_last, cX12_last, 6, (some .int)), (yX12_tell, cX12_tell, 3, (some .boolean)), (yX12_fullBy, cX12_fullBy, 4, (some .int)), (yX12_isAsTold, cX12_isAsTold, 4, (some .boolean)), (yX12_mostAlike, cX12_mostAlike, 6, (some .int)), (yX12_askFor, cX12_askFor, 7, (some .int)), (yX12_sets, cX12_sets, 7, (some .int)), (yX12_spreads, cX12_spreads, 5, (some .int)), (yX12_stop, cX12_stop, 5, (some .int)), (yX12_power, cX12_power, 7, (some .int)), (yX12_pairs, cX12_pairs, 6, none), (yX12_couples, cX12_couples, 4, (some .int)), (yX12_gets, cX12_gets, 4, (some .int)), (yX12_isRest, cX12_isRest, 5, (some .boolean)), (yX12_rests, cX12_rests, 7, (some .int)), (yX12_draws, cX12_draws, 2, (some .int)), (yX12_livesDay, cX12_livesDay, 5, none), (yX12_sum, cX12_sum, 4, (some .int)), (yX12_years, cX12_years, 5, (some .int)), (yX12_mark, cX12_mark, 5, (some .boolean)), (yX12_toldMany, cX12_toldMany, 3, (some .int)), (yX12_count, cX12_count, 2, (some .int)), (yJ6_numberOfTrailingZeros_0f7a4, cJ6_numberOfTrailingZeros_0f7a4, 2, (some .int)), (yJ6_bitCount_0f7a4, cJ6_bitCount_0f7a4, 1, (some .int)), (yJ0_length_8abf5, cJ0_length_8abf5, 1, (some .int)), (yJ0_charAt_5068e, cJ0_charAt_5068e, 2, (some .char)), (yJ0_indexOf_0f7a4, cJ0_indexOf_0f7a4, 2, (some .int)), (yJ0_indexOf_7cf53, cJ0_indexOf_7cf53, 3, (some .int)), (yJ0_coder_7d493, cJ0_coder_7d493, 1, (some .byte)), (yJ0_isLatin1_aae02, cJ0_isLatin1_aae02, 1, (some .boolean)), (yJ0_checkIndex_df160, cJ0_checkIndex_df160, 2, none), (yJ1_charAt_3b067, cJ1_charAt_3b067, 2, (some .char)), (yJ1_canEncode_9a6ad, cJ1_canEncode_9a6ad, 1, (some .boolean)), (yJ1_indexOf_4cfef, cJ1_indexOf_4cfef, 4, (some .int)), (yJ1_indexOfChar_4cfef, cJ1_indexOfChar_4cfef, 6, (some .int)), (yJ7_fill_53178, cJ7_fill_53178, 4, none), (yJ3_checkIndex_8e157, cJ3_checkIndex_8e157, 3, (some .int))]
def MT (n : Nat) : MI := (mtL[n]?).getD (yX8_fill, cX8_fill, 0, none)
theorem all_nil {α : Type} {P : α → Prop} : ∀ q ∈ ([] : List α), P q := fun q h => by cases h
theorem all_cons {α : Type} {P : α → Prop} {a : α} {l : List α} (h : P a) (hl : ∀ q ∈ l, P q) : ∀ q ∈ a :: l, P q := fun q hq => (List.mem_cons.mp hq).elim (fun e => by rw [e]; exact h) (hl q)
theorem fo_X0_11 : FOK RX0 (11, 0, 0, 5) := ⟨RX0, TX0, 20, tyX0, rfl, by decide, ibX0, tyX0_ok, nmX0, k_135, (fun h => absurd h (by decide))⟩
theorem fo_X0_15 : FOK RX0 (15, 0, 1, 5) := ⟨RX0, TX0, 20, tyX0, rfl, by decide, ibX0, tyX0_ok, nmX0, k_137, (fun h => absurd h (by decide))⟩
theorem fo_X0_22 : FOK RX0 (22, 0, 3, 5) := ⟨RX0, TX0, 20, tyX0, rfl, by decide, ibX0, tyX0_ok, nmX0, k_145, (fun h => absurd h (by decide))⟩
theorem fo_X0_25 : FOK RX0 (25, 0, 4, 5) := ⟨RX0, TX0, 20, tyX0, rfl, by decide, ibX0, tyX0_ok, nmX0, k_149, (fun h => absurd h (by decide))⟩
theorem fo_X0_28 : FOK RX0 (28, 0, 5, 5) := ⟨RX0, TX0, 20, tyX0, rfl, by decide, ibX0, tyX0_ok, nmX0, k_152, (fun h => absurd h (by decide))⟩
theorem fo_X0_31 : FOK RX0 (31, 0, 6, 5) := ⟨RX0, TX0, 20, tyX0, rfl, by decide, ibX0, tyX0_ok, nmX0, k_154, (fun h => absurd h (by decide))⟩
theorem fo_X0_34 : FOK RX0 (34, 0, 7, 5) := ⟨RX0, TX0, 20, tyX0, rfl, by decide, ibX0, tyX0_ok, nmX0, k_156, (fun h => absurd h (by decide))⟩
theorem fo_X0_37 : FOK RX0 (37, 0, 8, 5) := ⟨RX0, TX0, 20, tyX0, rfl, by decide, ibX0, tyX0_ok, nmX0, k_158, (fun h => absurd h (by decide))⟩
theorem fo_X0_40 : FOK RX0 (40, 0, 9, 5) := ⟨RX0, TX0, 20, tyX0, rfl, by decide, ibX0, tyX0_ok, nmX0, k_160, (fun h => absurd h (by decide))⟩
theorem fo_X0_43 : FOK RX0 (43, 0, 10, 5) := ⟨RX0, TX0, 20, tyX0, rfl, by decide, ibX0, tyX0_ok, nmX0, k_163, (fun h => absurd h (by decide))⟩
theorem fo_X0_46 : FOK RX0 (46, 0, 11, 5) := ⟨RX0, TX0, 20, tyX0, rfl, by decide, ibX0, tyX0_ok, nmX0, k_166, (fun h => absurd h (by decide))⟩
theorem fo_X0_52 : FOK RX0 (52, 0, 12, 5) := ⟨RX0, TX0, 20, tyX0, rfl, by decide, ibX0, tyX0_ok, nmX0, k_169, (fun h => absurd h (by decide))⟩
theorem fo_X0_56 : FOK RX0 (56, 0, 13, 0) := ⟨RX0, TX0, 20, tyX0, rfl, by decide, ibX0, tyX0_ok, nmX0, k_171, (fun _ => ⟨rfl, rfl⟩)⟩
theorem fo_X0_60 : FOK RX0 (60, 0, 14, 0) := ⟨RX0, TX0, 20, tyX0, rfl, by decide, ibX0, tyX0_ok, nmX0, k_178, (fun _ => ⟨rfl, rfl⟩)⟩
theorem fo_X0_63 : FOK RX0 (63, 0, 15, 0) := ⟨RX0, TX0, 20, tyX0, rfl, by decide, ibX0, tyX0_ok, nmX0, k_182, (fun _ => ⟨rfl, rfl⟩)⟩
theorem fo_X0_66 : FOK RX0 (66, 0, 16, 0) := ⟨RX0, TX0, 20, tyX0, rfl, by decide, ibX0, tyX0_ok, nmX0, k_185, (fun _ => ⟨rfl, rfl⟩)⟩
theorem fo_X0_69 : FOK RX0 (69, 0, 17, 5) := ⟨RX0, TX0, 20, tyX0, rfl, by decide, ibX0, tyX0_ok, nmX0, k_188, (fun h => absurd h (by decide))⟩
theorem fo_X0_72 : FOK RX0 (72, 0, 18, 5) := ⟨RX0, TX0, 20, tyX0, rfl, by decide, ibX0, tyX0_ok, nmX0, k_189, (fun h => absurd h (by decide))⟩
theorem fo_X0_75 : FOK RX0 (75, 0, 19, 5) := ⟨RX0, TX0, 20, tyX0, rfl, by decide, ibX0, tyX0_ok, nmX0, k_190, (fun h => absurd h (by decide))⟩
def ftX0 : List (Nat × Nat × Nat × Nat) := [(11, 0, 0, 5), (15, 0, 1, 5), (22, 0, 3, 5), (25, 0, 4, 5), (28, 0, 5, 5), (31, 0, 6, 5), (34, 0, 7, 5), (37, 0, 8, 5), (40, 0, 9, 5), (43, 0, 10, 5), (46, 0, 11, 5), (52, 0, 12, 5), (56, 0, 13, 0), (60, 0, 14, 0), (63, 0, 15, 0), (66, 0, 16, 0), (69, 0, 17, 5), (72, 0, 18, 5), (75, 0, 19, 5)]
theorem ftX0_ok : ∀ q ∈ ftX0, FOK RX0 q := (all_cons fo_X0_11 (all_cons fo_X0_15 (all_cons fo_X0_22 (all_cons fo_X0_25 (all_cons fo_X0_28 (all_cons fo_X0_31 (all_cons fo_X0_34 (all_cons fo_X0_37 (all_cons fo_X0_40 (all_cons fo_X0_43 (all_cons fo_X0_46 (all_cons fo_X0_52 (all_cons fo_X0_56 (all_cons fo_X0_60 (all_cons fo_X0_63 (all_cons fo_X0_66 (all_cons fo_X0_69 (all_cons fo_X0_72 (all_cons fo_X0_75 all_nil)))))))))))))))))))
def ktX0 : KT := (ftX0, [], [])
theorem ktX0_ok : KOK RX0 ktX0 := ⟨ftX0_ok, all_nil, all_nil⟩
theorem co_X0_79 : COK MT RX0 (79, 1, 255, 2, 0) := ⟨k_493, kn_J7, kc_J7_fill_53178, ⟨by decide +kernel, by decide +kernel, by decide +kernel⟩, kt_J7_fill_53178⟩
theorem co_X0_85 : COK MT RX0 (85, 0, 33, 0, 3) := ⟨k_494, kn_X3, kc_X3_becomesUsual, ⟨by decide +kernel, by decide +kernel, by decide +kernel⟩, ⟨ki_X3_becomesUsual, kz_X3_becomesUsual, TX3, 8, rfl⟩⟩
theorem co_X0_88 : COK MT RX0 (88, 1, 8, 3, 0) := ⟨k_827, kn_X0, kc_X0_giftAt, ⟨by decide +kernel, by decide +kernel, by decide +kernel⟩, kt_X0_giftAt⟩
theorem co_X0_98 : COK MT RX0 (98, 0, 46, 2, 3) := ⟨k_804, kn_X3, kc_X3_facesDish, ⟨by decide +kernel, by decide +kernel, by decide +kernel⟩, ⟨ki_X3_facesDish, kz_X3_facesDish, TX3, 8, rfl⟩⟩
theorem co_X0_102 : COK MT RX0 (102, 0, 47, 3, 3) := ⟨k_808, kn_X3, kc_X3_share, ⟨by decide +kernel, by decide +kernel, by decide +kernel⟩, ⟨ki_X3_share, kz_X3_share, TX3, 8, rfl⟩⟩
theorem co_X0_106 : COK MT RX0 (106, 0, 12, 3, 0) := ⟨k_823, kn_X0, kc_X0_settleGiftsOf, ⟨by decide +kernel, by decide +kernel, by decide +kernel⟩, ⟨ki_X0_settleGiftsOf, kz_X0_settleGiftsOf, TX0, 20, rfl⟩⟩
theorem co_X0_110 : COK MT RX0 (110, 0, 10, 1, 0) := ⟨k_834, kn_X0, kc_X0_settleBeaten, ⟨by decide +kernel, by decide +kernel, by decide +kernel⟩, ⟨ki_X0_settleBeaten, kz_X0_settleBeaten, TX0, 20, rfl⟩⟩
theorem co_X0_114 : COK MT RX0 (114, 0, 11, 2, 0) := ⟨k_838, kn_X0, kc_X0_isNoWorse, ⟨by decide +kernel, by decide +kernel, by decide +kernel⟩, ⟨ki_X0_isNoWorse, kz_X0_isNoWorse, TX0, 20, rfl⟩⟩
theorem co_X0_118 : COK MT RX0 (118, 1, 13, 3, 0) := ⟨k_830, kn_X0, kc_X0_byKind, ⟨by decide +kernel, by decide +kernel, by decide +kernel⟩, kt_X0_byKind⟩
theorem co_X0_126 : COK MT RX0 (126, 1, 243, 1, 0) := ⟨k_1212, kn_J6, kc_J6_bitCount_0f7a4, ⟨by decide +kernel, by decide +kernel, by decide +kernel⟩, kt_J6_bitCount_0f7a4⟩
def ctX0 : CTT := [(79, 1, 255, 2, 0), (85, 0, 33, 0, 3), (88, 1, 8, 3, 0), (98, 0, 46, 2, 3), (102, 0, 47, 3, 3), (106, 0, 12, 3, 0), (110, 0, 10, 1, 0), (114, 0, 11, 2, 0), (118, 1, 13, 3, 0), (126, 1, 243, 1, 0)]
theorem ctX0_ok : ∀ q ∈ ctX0, COK MT RX0 q := (all_cons co_X0_79 (all_cons co_X0_85 (all_cons co_X0_88 (all_cons co_X0_98 (all_cons co_X0_102 (all_cons co_X0_106 (all_cons co_X0_110 (all_cons co_X0_114 (all_cons co_X0_118 (all_cons co_X0_126 all_nil))))))))))
def skX0 : SKT := ([], [], [], [(92, 2), (122, 0)])
theorem skX0_ok : SKOK RX0 skX0 := ⟨all_nil, all_nil, all_nil, (all_cons ⟨k_801, k_802, kn_J9, k_803⟩ (all_cons ⟨k_833, k_561, kn_J9, k_562⟩ all_nil))⟩
def atX0 : List Nat := []
theorem atX0_ok : ATok RX0 atX0 := all_nil
theorem fo_X1_9 : FOK RX1 (9, 1, 0, 1) := ⟨RX1, TX1, 3, tyX1, rfl, by decide, ibX1, tyX1_ok, nmX1, k_86, (fun _ => ⟨rfl, rfl⟩)⟩
theorem fo_X1_15 : FOK RX1 (15, 1, 1, 1) := ⟨RX1, TX1, 3, tyX1, rfl, by decide, ibX1, tyX1_ok, nmX1, k_87, (fun _ => ⟨rfl, rfl⟩)⟩
theorem fo_X1_18 : FOK RX1 (18, 1, 2, 1) := ⟨RX1, TX1, 3, tyX1, rfl, by decide, ibX1, tyX1_ok, nmX1, k_88, (fun _ => ⟨rfl, rfl⟩)⟩
theorem fo_X1_34 : FOK RX1 (34, 9, 3, 0) := ⟨RX9, TX9, 9, tyX9, rfl, by decide, ibX9, tyX9_ok, nmX9, k_47, (fun _ => ⟨rfl, rfl⟩)⟩
theorem fo_X1_82 : FOK RX1 (82, 0, 13, 0) := ⟨RX0, TX0, 20, tyX0, rfl, by decide, ibX0, tyX0_ok, nmX0, k_173, (fun _ => ⟨rfl, rfl⟩)⟩
theorem fo_X1_88 : FOK RX1 (88, 0, 0, 5) := ⟨RX0, TX0, 20, tyX0, rfl, by decide, ibX0, tyX0_ok, nmX0, k_136, (fun h => absurd h (by decide))⟩
theorem fo_X1_92 : FOK RX1 (92, 9, 6, 3) := ⟨RX9, TX9, 9, tyX9, rfl, by decide, ibX9, tyX9_ok, nmX9, k_56, (fun _ => ⟨rfl, rfl⟩)⟩
theorem fo_X1_106 : FOK RX1 (106, 0, 2, 5) := ⟨RX0, TX0, 20, tyX0, rfl, by decide, ibX0, tyX0_ok, nmX0, k_141, (fun h => absurd h (by decide))⟩
theorem fo_X1_110 : FOK RX1 (110, 9, 4, 0) := ⟨RX9, TX9, 9, tyX9, rfl, by decide, ibX9, tyX9_ok, nmX9, k_51, (fun _ => ⟨rfl, rfl⟩)⟩
theorem fo_X1_115 : FOK RX1 (115, 0, 3, 5) := ⟨RX0, TX0, 20, tyX0, rfl, by decide, ibX0, tyX0_ok, nmX0, k_146, (fun h => absurd h (by decide))⟩
theorem fo_X1_119 : FOK RX1 (119, 0, 4, 5) := ⟨RX0, TX0, 20, tyX0, rfl, by decide, ibX0, tyX0_ok, nmX0, k_150, (fun h => absurd h (by decide))⟩
theorem fo_X1_137 : FOK RX1 (137, 0, 1, 5) := ⟨RX0, TX0, 20, tyX0, rfl, by decide, ibX0, tyX0_ok, nmX0, k_138, (fun h => absurd h (by decide))⟩
theorem fo_X1_145 : FOK RX1 (145, 0, 14, 0) := ⟨RX0, TX0, 20, tyX0, rfl, by decide, ibX0, tyX0_ok, nmX0, k_179, (fun _ => ⟨rfl, rfl⟩)⟩
theorem fo_X1_148 : FOK RX1 (148, 0, 8, 5) := ⟨RX0, TX0, 20, tyX0, rfl, by decide, ibX0, tyX0_ok, nmX0, k_159, (fun h => absurd h (by decide))⟩
theorem fo_X1_153 : FOK RX1 (153, 0, 9, 5) := ⟨RX0, TX0, 20, tyX0, rfl, by decide, ibX0, tyX0_ok, nmX0, k_162, (fun h => absurd h (by decide))⟩
theorem fo_X1_157 : FOK RX1 (157, 0, 10, 5) := ⟨RX0, TX0, 20, tyX0, rfl, by decide, ibX0, tyX0_ok, nmX0, k_165, (fun h => absurd h (by decide))⟩
theorem fo_X1_161 : FOK RX1 (161, 0, 11, 5) := ⟨RX0, TX0, 20, tyX0, rfl, by decide, ibX0, tyX0_ok, nmX0, k_168, (fun h => absurd h (by decide))⟩
theorem fo_X1_167 : FOK RX1 (167, 0, 7, 5) := ⟨RX0, TX0, 20, tyX0, rfl, by decide, ibX0, tyX0_ok, nmX0, k_157, (fun h => absurd h (by decide))⟩
theorem fo_X1_170 : FOK RX1 (170, 0, 5, 5) := ⟨RX0, TX0, 20, tyX0, rfl, by decide, ibX0, tyX0_ok, nmX0, k_153, (fun h => absurd h (by decide))⟩
theorem fo_X1_184 : FOK RX1 (184, 0, 6, 5) := ⟨RX0, TX0, 20, tyX0, rfl, by decide, ibX0, tyX0_ok, nmX0, k_155, (fun h => absurd h (by decide))⟩
theorem fo_X1_187 : FOK RX1 (187, 0, 15, 0) := ⟨RX0, TX0, 20, tyX0, rfl, by decide, ibX0, tyX0_ok, nmX0, k_184, (fun _ => ⟨rfl, rfl⟩)⟩
theorem fo_X1_189 : FOK RX1 (189, 0, 16, 0) := ⟨RX0, TX0, 20, tyX0, rfl, by decide, ibX0, tyX0_ok, nmX0, k_187, (fun _ => ⟨rfl, rfl⟩)⟩
theorem fo_X1_191 : FOK RX1 (191, 0, 12, 5) := ⟨RX0, TX0, 20, tyX0, rfl, by decide, ibX0, tyX0_ok, nmX0, k_170, (fun h => absurd h (by decide))⟩
def ftX1 : List (Nat × Nat × Nat × Nat) := [(9, 1, 0, 1), (15, 1, 1, 1), (18, 1, 2, 1), (34, 9, 3, 0), (82, 0, 13, 0), (88, 0, 0, 5), (92, 9, 6, 3), (106, 0, 2, 5), (110, 9, 4, 0), (115, 0, 3, 5), (119, 0, 4, 5), (137, 0, 1, 5), (145, 0, 14, 0), (148, 0, 8, 5), (153, 0, 9, 5), (157, 0, 10, 5), (161, 0, 11, 5), (167, 0, 7, 5), (170, 0, 5, 5), (184, 0, 6, 5), (187, 0, 15, 0), (189, 0, 16, 0), (191, 0, 12, 5)]
theorem ftX1_ok : ∀ q ∈ ftX1, FOK RX1 q := (all_cons fo_X1_9 (all_cons fo_X1_15 (all_cons fo_X1_18 (all_cons fo_X1_34 (all_cons fo_X1_82 (all_cons fo_X1_88 (all_cons fo_X1_92 (all_cons fo_X1_106 (all_cons fo_X1_110 (all_cons fo_X1_115 (all_cons fo_X1_119 (all_cons fo_X1_137 (all_cons fo_X1_145 (all_cons fo_X1_148 (all_cons fo_X1_153 (all_cons fo_X1_157 (all_cons fo_X1_161 (all_cons fo_X1_167 (all_cons fo_X1_170 (all_cons fo_X1_184 (all_cons fo_X1_187 (all_cons fo_X1_189 (all_cons fo_X1_191 all_nil)))))))))))))))))))))))
def ktX1 : KT := (ftX1, [], [])
theorem ktX1_ok : KOK RX1 ktX1 := ⟨ftX1_ok, all_nil, all_nil⟩
theorem co_X1_21 : COK MT RX1 (21, 0, 0, 0, 0) := ⟨k_489, kn_X0, kc_X0_forgets, ⟨by decide +kernel, by decide +kernel, by decide +kernel⟩, ⟨ki_X0_forgets, kz_X0_forgets, TX0, 20, rfl⟩⟩
theorem co_X1_26 : COK MT RX1 (26, 0, 81, 0, 9) := ⟨k_502, kn_X9, kc_X9_rewind, ⟨by decide +kernel, by decide +kernel, by decide +kernel⟩, ⟨ki_X9_rewind, kz_X9_rewind, TX9, 9, rfl⟩⟩
theorem co_X1_31 : COK MT RX1 (31, 0, 82, 0, 9) := ⟨k_506, kn_X9, kc_X9_takesToken, ⟨by decide +kernel, by decide +kernel, by decide +kernel⟩, ⟨ki_X9_takesToken, kz_X9_takesToken, TX9, 9, rfl⟩⟩
theorem co_X1_40 : COK MT RX1 (40, 0, 89, 1, 9) := ⟨k_619, kn_X9, kc_X9_isWord, ⟨by decide +kernel, by decide +kernel, by decide +kernel⟩, ⟨ki_X9_isWord, kz_X9_isWord, TX9, 9, rfl⟩⟩
theorem co_X1_44 : COK MT RX1 (44, 1, 18, 2, 1) := ⟨k_644, kn_X1, kc_X1_readsPerson, ⟨by decide +kernel, by decide +kernel, by decide +kernel⟩, kt_X1_readsPerson⟩
theorem co_X1_50 : COK MT RX1 (50, 1, 21, 2, 1) := ⟨k_705, kn_X1, kc_X1_readsDish, ⟨by decide +kernel, by decide +kernel, by decide +kernel⟩, kt_X1_readsDish⟩
theorem co_X1_55 : COK MT RX1 (55, 1, 22, 2, 1) := ⟨k_712, kn_X1, kc_X1_readsCup, ⟨by decide +kernel, by decide +kernel, by decide +kernel⟩, kt_X1_readsCup⟩
theorem co_X1_60 : COK MT RX1 (60, 1, 23, 2, 1) := ⟨k_721, kn_X1, kc_X1_readsSick, ⟨by decide +kernel, by decide +kernel, by decide +kernel⟩, kt_X1_readsSick⟩
theorem co_X1_65 : COK MT RX1 (65, 0, 24, 2, 1) := ⟨k_729, kn_X1, kc_X1_readsStore, ⟨by decide +kernel, by decide +kernel, by decide +kernel⟩, ⟨ki_X1_readsStore, kz_X1_readsStore, TX1, 3, rfl⟩⟩
theorem co_X1_70 : COK MT RX1 (70, 0, 25, 2, 1) := ⟨k_734, kn_X1, kc_X1_readsRest, ⟨by decide +kernel, by decide +kernel, by decide +kernel⟩, ⟨ki_X1_readsRest, kz_X1_readsRest, TX1, 3, rfl⟩⟩
theorem co_X1_75 : COK MT RX1 (75, 0, 26, 2, 1) := ⟨k_739, kn_X1, kc_X1_readsShare, ⟨by decide +kernel, by decide +kernel, by decide +kernel⟩, ⟨ki_X1_readsShare, kz_X1_readsShare, TX1, 3, rfl⟩⟩
theorem co_X1_78 : COK MT RX1 (78, 0, 92, 1, 9) := ⟨k_647, kn_X9, kc_X9_wrong, ⟨by decide +kernel, by decide +kernel, by decide +kernel⟩, ⟨ki_X9_wrong, kz_X9_wrong, TX9, 9, rfl⟩⟩
theorem co_X1_85 : COK MT RX1 (85, 1, 19, 2, 1) := ⟨k_651, kn_X1, kc_X1_takesNewName, ⟨by decide +kernel, by decide +kernel, by decide +kernel⟩, kt_X1_takesNewName⟩
theorem co_X1_96 : COK MT RX1 (96, 1, 20, 3, 1) := ⟨k_673, kn_X1, kc_X1_takesKind, ⟨by decide +kernel, by decide +kernel, by decide +kernel⟩, kt_X1_takesKind⟩
theorem co_X1_102 : COK MT RX1 (102, 0, 96, 2, 9) := ⟨k_681, kn_X9, kc_X9_takesNumberOf, ⟨by decide +kernel, by decide +kernel, by decide +kernel⟩, ⟨ki_X9_takesNumberOf, kz_X9_takesNumberOf, TX9, 9, rfl⟩⟩
theorem co_X1_121 : COK MT RX1 (121, 0, 94, 0, 9) := ⟨k_696, kn_X9, kc_X9_takesEnd, ⟨by decide +kernel, by decide +kernel, by decide +kernel⟩, ⟨ki_X9_takesEnd, kz_X9_takesEnd, TX9, 9, rfl⟩⟩
theorem co_X1_125 : COK MT RX1 (125, 0, 97, 0, 9) := ⟨k_654, kn_X9, kc_X9_takesName, ⟨by decide +kernel, by decide +kernel, by decide +kernel⟩, ⟨ki_X9_takesName, kz_X9_takesName, TX9, 9, rfl⟩⟩
theorem co_X1_128 : COK MT RX1 (128, 0, 1, 1, 0) := ⟨k_665, kn_X0, kc_X0_personNamed, ⟨by decide +kernel, by decide +kernel, by decide +kernel⟩, ⟨ki_X0_personNamed, kz_X0_personNamed, TX0, 20, rfl⟩⟩
theorem co_X1_132 : COK MT RX1 (132, 0, 2, 1, 0) := ⟨k_669, kn_X0, kc_X0_dishNamed, ⟨by decide +kernel, by decide +kernel, by decide +kernel⟩, ⟨ki_X0_dishNamed, kz_X0_dishNamed, TX0, 20, rfl⟩⟩
theorem co_X1_163 : COK MT RX1 (163, 0, 98, 1, 9) := ⟨k_715, kn_X9, kc_X9_takesPerson, ⟨by decide +kernel, by decide +kernel, by decide +kernel⟩, ⟨ki_X9_takesPerson, kz_X9_takesPerson, TX9, 9, rfl⟩⟩
theorem co_X1_177 : COK MT RX1 (177, 0, 93, 1, 9) := ⟨k_726, kn_X9, kc_X9_takesWord, ⟨by decide +kernel, by decide +kernel, by decide +kernel⟩, ⟨ki_X9_takesWord, kz_X9_takesWord, TX9, 9, rfl⟩⟩
theorem co_X1_180 : COK MT RX1 (180, 0, 95, 2, 9) := ⟨k_727, kn_X9, kc_X9_takesNumber, ⟨by decide +kernel, by decide +kernel, by decide +kernel⟩, ⟨ki_X9_takesNumber, kz_X9_takesNumber, TX9, 9, rfl⟩⟩
theorem co_X1_195 : COK MT RX1 (195, 0, 34, 1, 3) := ⟨k_743, kn_X3, kc_X3_reads, ⟨by decide +kernel, by decide +kernel, by decide +kernel⟩, ⟨ki_X3_reads, kz_X3_reads, TX3, 8, rfl⟩⟩
def ctX1 : CTT := [(21, 0, 0, 0, 0), (26, 0, 81, 0, 9), (31, 0, 82, 0, 9), (40, 0, 89, 1, 9), (44, 1, 18, 2, 1), (50, 1, 21, 2, 1), (55, 1, 22, 2, 1), (60, 1, 23, 2, 1), (65, 0, 24, 2, 1), (70, 0, 25, 2, 1), (75, 0, 26, 2, 1), (78, 0, 92, 1, 9), (85, 1, 19, 2, 1), (96, 1, 20, 3, 1), (102, 0, 96, 2, 9), (121, 0, 94, 0, 9), (125, 0, 97, 0, 9), (128, 0, 1, 1, 0), (132, 0, 2, 1, 0), (163, 0, 98, 1, 9), (177, 0, 93, 1, 9), (180, 0, 95, 2, 9), (195, 0, 34, 1, 3)]
theorem ctX1_ok : ∀ q ∈ ctX1, COK MT RX1 q := (all_cons co_X1_21 (all_cons co_X1_26 (all_cons co_X1_31 (all_cons co_X1_40 (all_cons co_X1_44 (all_cons co_X1_50 (all_cons co_X1_55 (all_cons co_X1_60 (all_cons co_X1_65 (all_cons co_X1_70 (all_cons co_X1_75 (all_cons co_X1_78 (all_cons co_X1_85 (all_cons co_X1_96 (all_cons co_X1_102 (all_cons co_X1_121 (all_cons co_X1_125 (all_cons co_X1_128 (all_cons co_X1_132 (all_cons co_X1_163 (all_cons co_X1_177 (all_cons co_X1_180 (all_cons co_X1_195 all_nil)))))))))))))))))))))))
def skX1 : SKT := ([(38, 2), (48, 3), (53, 4), (58, 5), (63, 6), (68, 7), (73, 8), (100, 9), (113, 10), (117, 11), (135, 12), (139, 13), (141, 14), (143, 15), (151, 16), (155, 17), (159, 18), (173, 19), (175, 20)], [], [], [])
theorem skX1_ok : SKOK RX1 skX1 := ⟨(all_cons ⟨_, rfl, rfl, rfl⟩ (all_cons ⟨_, rfl, rfl, rfl⟩ (all_cons ⟨_, rfl, rfl, rfl⟩ (all_cons ⟨_, rfl, rfl, rfl⟩ (all_cons ⟨_, rfl, rfl, rfl⟩ (all_cons ⟨_, rfl, rfl, rfl⟩ (all_cons ⟨_, rfl, rfl, rfl⟩ (all_cons ⟨_, rfl, rfl, rfl⟩ (all_cons ⟨_, rfl, rfl, rfl⟩ (all_cons ⟨_, rfl, rfl, rfl⟩ (all_cons ⟨_, rfl, rfl, rfl⟩ (all_cons ⟨_, rfl, rfl, rfl⟩ (all_cons ⟨_, rfl, rfl, rfl⟩ (all_cons ⟨_, rfl, rfl, rfl⟩ (all_cons ⟨_, rfl, rfl, rfl⟩ (all_cons ⟨_, rfl, rfl, rfl⟩ (all_cons ⟨_, rfl, rfl, rfl⟩ (all_cons ⟨_, rfl, rfl, rfl⟩ (all_cons ⟨_, rfl, rfl, rfl⟩ all_nil))))))))))))))))))), all_nil, all_nil, all_nil⟩
def atX1 : List Nat := []
theorem atX1_ok : ATok RX1 atX1 := all_nil
theorem fo_X2_9 : FOK RX2 (9, 2, 0, 5) := ⟨RX2, TX2, 5, tyX2, rfl, by decide, ibX2, tyX2_ok, nmX2, k_299, (fun h => absurd h (by decide))⟩
theorem fo_X2_15 : FOK RX2 (15, 2, 1, 0) := ⟨RX2, TX2, 5, tyX2, rfl, by decide, ibX2, tyX2_ok, nmX2, k_302, (fun _ => ⟨rfl, rfl⟩)⟩
theorem fo_X2_19 : FOK RX2 (19, 2, 2, 0) := ⟨RX2, TX2, 5, tyX2, rfl, by decide, ibX2, tyX2_ok, nmX2, k_304, (fun _ => ⟨rfl, rfl⟩)⟩
theorem fo_X2_22 : FOK RX2 (22, 2, 3, 0) := ⟨RX2, TX2, 5, tyX2, rfl, by decide, ibX2, tyX2_ok, nmX2, k_306, (fun _ => ⟨rfl, rfl⟩)⟩
theorem fo_X2_25 : FOK RX2 (25, 2, 4, 5) := ⟨RX2, TX2, 5, tyX2, rfl, by decide, ibX2, tyX2_ok, nmX2, k_308, (fun h => absurd h (by decide))⟩
theorem fo_X2_48 : FOK RX2 (48, 0, 13, 0) := ⟨RX0, TX0, 20, tyX0, rfl, by decide, ibX0, tyX0_ok, nmX0, k_174, (fun _ => ⟨rfl, rfl⟩)⟩
theorem fo_X2_55 : FOK RX2 (55, 8, 3, 5) := ⟨RX8, TX8, 6, tyX8, rfl, by decide, ibX8, tyX8_ok, nmX8, k_267, (fun h => absurd h (by decide))⟩
def ftX2 : List (Nat × Nat × Nat × Nat) := [(9, 2, 0, 5), (15, 2, 1, 0), (19, 2, 2, 0), (22, 2, 3, 0), (25, 2, 4, 5), (48, 0, 13, 0), (55, 8, 3, 5)]
theorem ftX2_ok : ∀ q ∈ ftX2, FOK RX2 q := (all_cons fo_X2_9 (all_cons fo_X2_15 (all_cons fo_X2_19 (all_cons fo_X2_22 (all_cons fo_X2_25 (all_cons fo_X2_48 (all_cons fo_X2_55 all_nil)))))))
def ktX2 : KT := (ftX2, [], [])
theorem ktX2_ok : KOK RX2 ktX2 := ⟨ftX2_ok, all_nil, all_nil⟩
theorem co_X2_28 : COK MT RX2 (28, 1, 255, 2, 0) := ⟨k_296, kn_J7, kc_J7_fill_53178, ⟨by decide +kernel, by decide +kernel, by decide +kernel⟩, kt_J7_fill_53178⟩
theorem co_X2_34 : COK MT RX2 (34, 0, 28, 1, 2) := ⟨k_1114, kn_X2, kc_X2_isTold, ⟨by decide +kernel, by decide +kernel, by decide +kernel⟩, ⟨ki_X2_isTold, kz_X2_isTold, TX2, 5, rfl⟩⟩
theorem co_X2_38 : COK MT RX2 (38, 0, 4, 0, 0) := ⟨k_1101, kn_X0, kc_X0_everybody, ⟨by decide +kernel, by decide +kernel, by decide +kernel⟩, ⟨ki_X0_everybody, kz_X0_everybody, TX0, 20, rfl⟩⟩
theorem co_X2_44 : COK MT RX2 (44, 0, 30, 4, 2) := ⟨k_1105, kn_X2, kc_X2_agrees, ⟨by decide +kernel, by decide +kernel, by decide +kernel⟩, ⟨ki_X2_agrees, kz_X2_agrees, TX2, 5, rfl⟩⟩
theorem co_X2_51 : COK MT RX2 (51, 1, 31, 4, 2) := ⟨k_1109, kn_X2, kc_X2_fullAbroad, ⟨by decide +kernel, by decide +kernel, by decide +kernel⟩, kt_X2_fullAbroad⟩
theorem co_X2_60 : COK MT RX2 (60, 0, 7, 2, 0) := ⟨k_1112, kn_X0, kc_X0_giftAbroad, ⟨by decide +kernel, by decide +kernel, by decide +kernel⟩, ⟨ki_X0_giftAbroad, kz_X0_giftAbroad, TX0, 20, rfl⟩⟩
def ctX2 : CTT := [(28, 1, 255, 2, 0), (34, 0, 28, 1, 2), (38, 0, 4, 0, 0), (44, 0, 30, 4, 2), (51, 1, 31, 4, 2), (60, 0, 7, 2, 0)]
theorem ctX2_ok : ∀ q ∈ ctX2, COK MT RX2 q := (all_cons co_X2_28 (all_cons co_X2_34 (all_cons co_X2_38 (all_cons co_X2_44 (all_cons co_X2_51 (all_cons co_X2_60 all_nil))))))
def skX2 : SKT := ([], [], [], [(64, 1), (69, 0)])
theorem skX2_ok : SKOK RX2 skX2 := ⟨all_nil, all_nil, all_nil, (all_cons ⟨k_1113, k_564, kn_J9, k_565⟩ (all_cons ⟨k_1122, k_561, kn_J9, k_562⟩ all_nil))⟩
def atX2 : List Nat := []
theorem atX2_ok : ATok RX2 atX2 := all_nil
theorem fo_X3_9 : FOK RX3 (9, 3, 0, 5) := ⟨RX3, TX3, 8, tyX3, rfl, by decide, ibX3, tyX3_ok, nmX3, k_108, (fun h => absurd h (by decide))⟩
theorem fo_X3_15 : FOK RX3 (15, 3, 1, 0) := ⟨RX3, TX3, 8, tyX3, rfl, by decide, ibX3, tyX3_ok, nmX3, k_109, (fun _ => ⟨rfl, rfl⟩)⟩
theorem fo_X3_19 : FOK RX3 (19, 3, 2, 5) := ⟨RX3, TX3, 8, tyX3, rfl, by decide, ibX3, tyX3_ok, nmX3, k_110, (fun h => absurd h (by decide))⟩
theorem fo_X3_22 : FOK RX3 (22, 3, 3, 0) := ⟨RX3, TX3, 8, tyX3, rfl, by decide, ibX3, tyX3_ok, nmX3, k_111, (fun _ => ⟨rfl, rfl⟩)⟩
theorem fo_X3_25 : FOK RX3 (25, 3, 4, 0) := ⟨RX3, TX3, 8, tyX3, rfl, by decide, ibX3, tyX3_ok, nmX3, k_112, (fun _ => ⟨rfl, rfl⟩)⟩
theorem fo_X3_28 : FOK RX3 (28, 3, 5, 0) := ⟨RX3, TX3, 8, tyX3, rfl, by decide, ibX3, tyX3_ok, nmX3, k_113, (fun _ => ⟨rfl, rfl⟩)⟩
theorem fo_X3_31 : FOK RX3 (31, 3, 6, 5) := ⟨RX3, TX3, 8, tyX3, rfl, by decide, ibX3, tyX3_ok, nmX3, k_114, (fun h => absurd h (by decide))⟩
theorem fo_X3_34 : FOK RX3 (34, 3, 7, 5) := ⟨RX3, TX3, 8, tyX3, rfl, by decide, ibX3, tyX3_ok, nmX3, k_115, (fun h => absurd h (by decide))⟩
theorem fo_X3_73 : FOK RX3 (73, 9, 3, 0) := ⟨RX9, TX9, 9, tyX9, rfl, by decide, ibX9, tyX9_ok, nmX9, k_49, (fun _ => ⟨rfl, rfl⟩)⟩
theorem fo_X3_76 : FOK RX3 (76, 9, 4, 0) := ⟨RX9, TX9, 9, tyX9, rfl, by decide, ibX9, tyX9_ok, nmX9, k_52, (fun _ => ⟨rfl, rfl⟩)⟩
theorem fo_X3_99 : FOK RX3 (99, 9, 5, 2) := ⟨RX9, TX9, 9, tyX9, rfl, by decide, ibX9, tyX9_ok, nmX9, k_54, (fun _ => ⟨rfl, rfl⟩)⟩
def ftX3 : List (Nat × Nat × Nat × Nat) := [(9, 3, 0, 5), (15, 3, 1, 0), (19, 3, 2, 5), (22, 3, 3, 0), (25, 3, 4, 0), (28, 3, 5, 0), (31, 3, 6, 5), (34, 3, 7, 5), (73, 9, 3, 0), (76, 9, 4, 0), (99, 9, 5, 2)]
theorem ftX3_ok : ∀ q ∈ ftX3, FOK RX3 q := (all_cons fo_X3_9 (all_cons fo_X3_15 (all_cons fo_X3_19 (all_cons fo_X3_22 (all_cons fo_X3_25 (all_cons fo_X3_28 (all_cons fo_X3_31 (all_cons fo_X3_34 (all_cons fo_X3_73 (all_cons fo_X3_76 (all_cons fo_X3_99 all_nil)))))))))))
def ktX3 : KT := (ftX3, [], [])
theorem ktX3_ok : KOK RX3 ktX3 := ⟨ftX3_ok, all_nil, all_nil⟩
theorem co_X3_37 : COK MT RX3 (37, 0, 44, 1, 3) := ⟨k_498, kn_X3, kc_X3_addStep, ⟨by decide +kernel, by decide +kernel, by decide +kernel⟩, ⟨ki_X3_addStep, kz_X3_addStep, TX3, 8, rfl⟩⟩
theorem co_X3_41 : COK MT RX3 (41, 0, 82, 0, 9) := ⟨k_747, kn_X9, kc_X9_takesToken, ⟨by decide +kernel, by decide +kernel, by decide +kernel⟩, ⟨ki_X9_takesToken, kz_X9_takesToken, TX9, 9, rfl⟩⟩
theorem co_X3_46 : COK MT RX3 (46, 1, 35, 1, 3) := ⟨k_748, kn_X3, kc_X3_partOn, ⟨by decide +kernel, by decide +kernel, by decide +kernel⟩, kt_X3_partOn⟩
theorem co_X3_50 : COK MT RX3 (50, 0, 92, 1, 9) := ⟨k_759, kn_X9, kc_X9_wrong, ⟨by decide +kernel, by decide +kernel, by decide +kernel⟩, ⟨ki_X9_wrong, kz_X9_wrong, TX9, 9, rfl⟩⟩
theorem co_X3_54 : COK MT RX3 (54, 0, 38, 1, 3) := ⟨k_760, kn_X3, kc_X3_takesPart, ⟨by decide +kernel, by decide +kernel, by decide +kernel⟩, ⟨ki_X3_takesPart, kz_X3_takesPart, TX3, 8, rfl⟩⟩
theorem co_X3_57 : COK MT RX3 (57, 0, 90, 1, 9) := ⟨k_751, kn_X9, kc_X9_isSign, ⟨by decide +kernel, by decide +kernel, by decide +kernel⟩, ⟨ki_X9_isSign, kz_X9_isSign, TX9, 9, rfl⟩⟩
theorem co_X3_61 : COK MT RX3 (61, 0, 43, 1, 3) := ⟨k_772, kn_X3, kc_X3_settleJoints, ⟨by decide +kernel, by decide +kernel, by decide +kernel⟩, ⟨ki_X3_settleJoints, kz_X3_settleJoints, TX3, 8, rfl⟩⟩
theorem co_X3_64 : COK MT RX3 (64, 0, 40, 0, 3) := ⟨k_780, kn_X3, kc_X3_closes, ⟨by decide +kernel, by decide +kernel, by decide +kernel⟩, ⟨ki_X3_closes, kz_X3_closes, TX3, 8, rfl⟩⟩
theorem co_X3_67 : COK MT RX3 (67, 1, 36, 1, 3) := ⟨k_784, kn_X3, kc_X3_jointOn, ⟨by decide +kernel, by decide +kernel, by decide +kernel⟩, kt_X3_jointOn⟩
theorem co_X3_70 : COK MT RX3 (70, 0, 39, 1, 3) := ⟨k_789, kn_X3, kc_X3_takesJoint, ⟨by decide +kernel, by decide +kernel, by decide +kernel⟩, ⟨ki_X3_takesJoint, kz_X3_takesJoint, TX3, 8, rfl⟩⟩
theorem co_X3_81 : COK MT RX3 (81, 0, 89, 1, 9) := ⟨k_753, kn_X9, kc_X9_isWord, ⟨by decide +kernel, by decide +kernel, by decide +kernel⟩, ⟨ki_X9_isWord, kz_X9_isWord, TX9, 9, rfl⟩⟩
theorem co_X3_103 : COK MT RX3 (103, 0, 45, 1, 3) := ⟨k_764, kn_X3, kc_X3_addWaiting, ⟨by decide +kernel, by decide +kernel, by decide +kernel⟩, ⟨ki_X3_addWaiting, kz_X3_addWaiting, TX3, 8, rfl⟩⟩
theorem co_X3_106 : COK MT RX3 (106, 0, 42, 0, 3) := ⟨k_768, kn_X3, kc_X3_settleNots, ⟨by decide +kernel, by decide +kernel, by decide +kernel⟩, ⟨ki_X3_settleNots, kz_X3_settleNots, TX3, 8, rfl⟩⟩
theorem co_X3_109 : COK MT RX3 (109, 1, 37, 1, 3) := ⟨k_777, kn_X3, kc_X3_bindingOf, ⟨by decide +kernel, by decide +kernel, by decide +kernel⟩, kt_X3_bindingOf⟩
theorem co_X3_113 : COK MT RX3 (113, 0, 41, 0, 3) := ⟨k_793, kn_X3, kc_X3_lastWaiting, ⟨by decide +kernel, by decide +kernel, by decide +kernel⟩, ⟨ki_X3_lastWaiting, kz_X3_lastWaiting, TX3, 8, rfl⟩⟩
theorem co_X3_123 : COK MT RX3 (123, 1, 50, 1, 3) := ⟨k_812, kn_X3, kc_X3_truth, ⟨by decide +kernel, by decide +kernel, by decide +kernel⟩, kt_X3_truth⟩
theorem co_X3_127 : COK MT RX3 (127, 0, 48, 0, 3) := ⟨k_815, kn_X3, kc_X3_worked, ⟨by decide +kernel, by decide +kernel, by decide +kernel⟩, ⟨ki_X3_worked, kz_X3_worked, TX3, 8, rfl⟩⟩
theorem co_X3_133 : COK MT RX3 (133, 1, 49, 3, 3) := ⟨k_819, kn_X3, kc_X3_joined, ⟨by decide +kernel, by decide +kernel, by decide +kernel⟩, kt_X3_joined⟩
def ctX3 : CTT := [(37, 0, 44, 1, 3), (41, 0, 82, 0, 9), (46, 1, 35, 1, 3), (50, 0, 92, 1, 9), (54, 0, 38, 1, 3), (57, 0, 90, 1, 9), (61, 0, 43, 1, 3), (64, 0, 40, 0, 3), (67, 1, 36, 1, 3), (70, 0, 39, 1, 3), (81, 0, 89, 1, 9), (103, 0, 45, 1, 3), (106, 0, 42, 0, 3), (109, 1, 37, 1, 3), (113, 0, 41, 0, 3), (123, 1, 50, 1, 3), (127, 0, 48, 0, 3), (133, 1, 49, 3, 3)]
theorem ctX3_ok : ∀ q ∈ ctX3, COK MT RX3 q := (all_cons co_X3_37 (all_cons co_X3_41 (all_cons co_X3_46 (all_cons co_X3_50 (all_cons co_X3_54 (all_cons co_X3_57 (all_cons co_X3_61 (all_cons co_X3_64 (all_cons co_X3_67 (all_cons co_X3_70 (all_cons co_X3_81 (all_cons co_X3_103 (all_cons co_X3_106 (all_cons co_X3_109 (all_cons co_X3_113 (all_cons co_X3_123 (all_cons co_X3_127 (all_cons co_X3_133 all_nil))))))))))))))))))
def skX3 : SKT := ([(79, 21), (85, 22), (87, 23), (89, 24), (91, 25), (93, 26), (95, 27), (97, 28)], [], [], [(117, 0), (130, 1)])
theorem skX3_ok : SKOK RX3 skX3 := ⟨(all_cons ⟨_, rfl, rfl, rfl⟩ (all_cons ⟨_, rfl, rfl, rfl⟩ (all_cons ⟨_, rfl, rfl, rfl⟩ (all_cons ⟨_, rfl, rfl, rfl⟩ (all_cons ⟨_, rfl, rfl, rfl⟩ (all_cons ⟨_, rfl, rfl, rfl⟩ (all_cons ⟨_, rfl, rfl, rfl⟩ (all_cons ⟨_, rfl, rfl, rfl⟩ all_nil)))))))), all_nil, all_nil, (all_cons ⟨k_776, k_561, kn_J9, k_562⟩ (all_cons ⟨k_822, k_564, kn_J9, k_565⟩ all_nil))⟩
def atX3 : List Nat := []
theorem atX3_ok : ATok RX3 atX3 := all_nil
theorem fo_X4_9 : FOK RX4 (9, 4, 0, 1) := ⟨RX4, TX4, 4, tyX4, rfl, by decide, ibX4, tyX4_ok, nmX4, k_406, (fun _ => ⟨rfl, rfl⟩)⟩
theorem fo_X4_18 : FOK RX4 (18, 4, 1, 5) := ⟨RX4, TX4, 4, tyX4, rfl, by decide, ibX4, tyX4_ok, nmX4, k_408, (fun h => absurd h (by decide))⟩
theorem fo_X4_25 : FOK RX4 (25, 4, 2, 5) := ⟨RX4, TX4, 4, tyX4, rfl, by decide, ibX4, tyX4_ok, nmX4, k_409, (fun h => absurd h (by decide))⟩
theorem fo_X4_29 : FOK RX4 (29, 4, 3, 5) := ⟨RX4, TX4, 4, tyX4, rfl, by decide, ibX4, tyX4_ok, nmX4, k_410, (fun h => absurd h (by decide))⟩
theorem fo_X4_41 : FOK RX4 (41, 2, 0, 5) := ⟨RX2, TX2, 5, tyX2, rfl, by decide, ibX2, tyX2_ok, nmX2, k_300, (fun h => absurd h (by decide))⟩
def ftX4 : List (Nat × Nat × Nat × Nat) := [(9, 4, 0, 1), (18, 4, 1, 5), (25, 4, 2, 5), (29, 4, 3, 5), (41, 2, 0, 5)]
theorem ftX4_ok : ∀ q ∈ ftX4, FOK RX4 q := (all_cons fo_X4_9 (all_cons fo_X4_18 (all_cons fo_X4_25 (all_cons fo_X4_29 (all_cons fo_X4_41 all_nil)))))
def ktX4 : KT := (ftX4, [], [])
theorem ktX4_ok : KOK RX4 ktX4 := ⟨ftX4_ok, all_nil, all_nil⟩
theorem co_X4_33 : COK MT RX4 (33, 0, 70, 1, 8) := ⟨k_1193, kn_X8, kc_X8_copiesDay, ⟨by decide +kernel, by decide +kernel, by decide +kernel⟩, ⟨ki_X8_copiesDay, kz_X8_copiesDay, TX8, 6, rfl⟩⟩
theorem co_X4_37 : COK MT RX4 (37, 0, 100, 1, 10) := ⟨k_1194, kn_X10, kc_X10_copies, ⟨by decide +kernel, by decide +kernel, by decide +kernel⟩, ⟨ki_X10_copies, kz_X10_copies, TX10, 4, rfl⟩⟩
def ctX4 : CTT := [(33, 0, 70, 1, 8), (37, 0, 100, 1, 10)]
theorem ctX4_ok : ∀ q ∈ ctX4, COK MT RX4 q := (all_cons co_X4_33 (all_cons co_X4_37 all_nil))
def skX4 : SKT := ([], [], [], [])
theorem skX4_ok : SKOK RX4 skX4 := ⟨all_nil, all_nil, all_nil, all_nil⟩
def atX4 : List Nat := [44]
theorem atX4_ok : ATok RX4 atX4 := (all_cons ⟨k_1199, k_961, k_960, k_21⟩ all_nil)
theorem fo_X5_9 : FOK RX5 (9, 5, 0, 0) := ⟨RX5, TX5, 3, tyX5, rfl, by decide, ibX5, tyX5_ok, nmX5, k_385, (fun _ => ⟨rfl, rfl⟩)⟩
theorem fo_X5_15 : FOK RX5 (15, 5, 1, 5) := ⟨RX5, TX5, 3, tyX5, rfl, by decide, ibX5, tyX5_ok, nmX5, k_387, (fun h => absurd h (by decide))⟩
theorem fo_X5_19 : FOK RX5 (19, 5, 2, 5) := ⟨RX5, TX5, 3, tyX5, rfl, by decide, ibX5, tyX5_ok, nmX5, k_389, (fun h => absurd h (by decide))⟩
theorem fo_X5_48 : FOK RX5 (48, 0, 3, 5) := ⟨RX0, TX0, 20, tyX0, rfl, by decide, ibX0, tyX0_ok, nmX0, k_147, (fun h => absurd h (by decide))⟩
def ftX5 : List (Nat × Nat × Nat × Nat) := [(9, 5, 0, 0), (15, 5, 1, 5), (19, 5, 2, 5), (48, 0, 3, 5)]
theorem ftX5_ok : ∀ q ∈ ftX5, FOK RX5 q := (all_cons fo_X5_9 (all_cons fo_X5_15 (all_cons fo_X5_19 (all_cons fo_X5_48 all_nil))))
def ktX5 : KT := (ftX5, [(22, 1000000)], [])
theorem ktX5_ok : KOK RX5 ktX5 := ⟨ftX5_ok, (all_cons k_1154 all_nil), all_nil⟩
theorem co_X5_23 : COK MT RX5 (23, 1, 255, 2, 0) := ⟨k_1155, kn_J7, kc_J7_fill_53178, ⟨by decide +kernel, by decide +kernel, by decide +kernel⟩, kt_J7_fill_53178⟩
theorem co_X5_29 : COK MT RX5 (29, 1, 243, 1, 0) := ⟨k_1156, kn_J6, kc_J6_bitCount_0f7a4, ⟨by decide +kernel, by decide +kernel, by decide +kernel⟩, kt_J6_bitCount_0f7a4⟩
theorem co_X5_35 : COK MT RX5 (35, 0, 54, 4, 5) := ⟨k_1157, kn_X5, kc_X5_pairRest, ⟨by decide +kernel, by decide +kernel, by decide +kernel⟩, ⟨ki_X5_pairRest, kz_X5_pairRest, TX5, 3, rfl⟩⟩
theorem co_X5_45 : COK MT RX5 (45, 1, 242, 1, 0) := ⟨k_1162, kn_J6, kc_J6_numberOfTrailingZeros_0f7a4, ⟨by decide +kernel, by decide +kernel, by decide +kernel⟩, kt_J6_numberOfTrailingZeros_0f7a4⟩
def ctX5 : CTT := [(23, 1, 255, 2, 0), (29, 1, 243, 1, 0), (35, 0, 54, 4, 5), (45, 1, 242, 1, 0)]
theorem ctX5_ok : ∀ q ∈ ctX5, COK MT RX5 q := (all_cons co_X5_23 (all_cons co_X5_29 (all_cons co_X5_35 (all_cons co_X5_45 all_nil))))
def skX5 : SKT := ([], [], [], [(53, 2)])
theorem skX5_ok : SKOK RX5 skX5 := ⟨all_nil, all_nil, all_nil, (all_cons ⟨k_1166, k_802, kn_J9, k_803⟩ all_nil)⟩
def atX5 : List Nat := [39]
theorem atX5_ok : ATok RX5 atX5 := (all_cons ⟨k_1161, k_961, k_960, k_21⟩ all_nil)
theorem fo_X6_9 : FOK RX6 (9, 6, 0, 0) := ⟨RX6, TX6, 7, tyX6, rfl, by decide, ibX6, tyX6_ok, nmX6, k_355, (fun _ => ⟨rfl, rfl⟩)⟩
theorem fo_X6_15 : FOK RX6 (15, 6, 1, 5) := ⟨RX6, TX6, 7, tyX6, rfl, by decide, ibX6, tyX6_ok, nmX6, k_357, (fun h => absurd h (by decide))⟩
theorem fo_X6_19 : FOK RX6 (19, 6, 2, 5) := ⟨RX6, TX6, 7, tyX6, rfl, by decide, ibX6, tyX6_ok, nmX6, k_359, (fun h => absurd h (by decide))⟩
theorem fo_X6_22 : FOK RX6 (22, 6, 3, 5) := ⟨RX6, TX6, 7, tyX6, rfl, by decide, ibX6, tyX6_ok, nmX6, k_360, (fun h => absurd h (by decide))⟩
theorem fo_X6_25 : FOK RX6 (25, 6, 4, 5) := ⟨RX6, TX6, 7, tyX6, rfl, by decide, ibX6, tyX6_ok, nmX6, k_361, (fun h => absurd h (by decide))⟩
theorem fo_X6_28 : FOK RX6 (28, 6, 5, 0) := ⟨RX6, TX6, 7, tyX6, rfl, by decide, ibX6, tyX6_ok, nmX6, k_362, (fun _ => ⟨rfl, rfl⟩)⟩
theorem fo_X6_31 : FOK RX6 (31, 6, 6, 0) := ⟨RX6, TX6, 7, tyX6, rfl, by decide, ibX6, tyX6_ok, nmX6, k_363, (fun _ => ⟨rfl, rfl⟩)⟩
theorem fo_X6_34 : FOK RX6 (34, 0, 13, 0) := ⟨RX0, TX0, 20, tyX0, rfl, by decide, ibX0, tyX0_ok, nmX0, k_172, (fun _ => ⟨rfl, rfl⟩)⟩
def ftX6 : List (Nat × Nat × Nat × Nat) := [(9, 6, 0, 0), (15, 6, 1, 5), (19, 6, 2, 5), (22, 6, 3, 5), (25, 6, 4, 5), (28, 6, 5, 0), (31, 6, 6, 0), (34, 0, 13, 0)]
theorem ftX6_ok : ∀ q ∈ ftX6, FOK RX6 q := (all_cons fo_X6_9 (all_cons fo_X6_15 (all_cons fo_X6_19 (all_cons fo_X6_22 (all_cons fo_X6_25 (all_cons fo_X6_28 (all_cons fo_X6_31 (all_cons fo_X6_34 all_nil))))))))
def ktX6 : KT := (ftX6, [], [])
theorem ktX6_ok : KOK RX6 ktX6 := ⟨ftX6_ok, all_nil, all_nil⟩
theorem co_X6_37 : COK MT RX6 (37, 1, 56, 3, 6) := ⟨k_1062, kn_X6, kc_X6_worthOf, ⟨by decide +kernel, by decide +kernel, by decide +kernel⟩, kt_X6_worthOf⟩
theorem co_X6_41 : COK MT RX6 (41, 1, 255, 2, 0) := ⟨k_1070, kn_J7, kc_J7_fill_53178, ⟨by decide +kernel, by decide +kernel, by decide +kernel⟩, kt_J7_fill_53178⟩
theorem co_X6_47 : COK MT RX6 (47, 0, 58, 2, 6) := ⟨k_1071, kn_X6, kc_X6_seat, ⟨by decide +kernel, by decide +kernel, by decide +kernel⟩, ⟨ki_X6_seat, kz_X6_seat, TX6, 7, rfl⟩⟩
theorem co_X6_51 : COK MT RX6 (51, 1, 57, 4, 6) := ⟨k_1065, kn_X6, kc_X6_worthBy, ⟨by decide +kernel, by decide +kernel, by decide +kernel⟩, kt_X6_worthBy⟩
theorem co_X6_61 : COK MT RX6 (61, 0, 6, 4, 0) := ⟨k_1068, kn_X0, kc_X0_gift, ⟨by decide +kernel, by decide +kernel, by decide +kernel⟩, ⟨ki_X0_gift, kz_X0_gift, TX0, 20, rfl⟩⟩
theorem co_X6_65 : COK MT RX6 (65, 0, 59, 1, 6) := ⟨k_1075, kn_X6, kc_X6_keepIfBetter, ⟨by decide +kernel, by decide +kernel, by decide +kernel⟩, ⟨ki_X6_keepIfBetter, kz_X6_keepIfBetter, TX6, 7, rfl⟩⟩
def ctX6 : CTT := [(37, 1, 56, 3, 6), (41, 1, 255, 2, 0), (47, 0, 58, 2, 6), (51, 1, 57, 4, 6), (61, 0, 6, 4, 0), (65, 0, 59, 1, 6)]
theorem ctX6_ok : ∀ q ∈ ctX6, COK MT RX6 q := (all_cons co_X6_37 (all_cons co_X6_41 (all_cons co_X6_47 (all_cons co_X6_51 (all_cons co_X6_61 (all_cons co_X6_65 all_nil))))))
def skX6 : SKT := ([], [], [], [(55, 0)])
theorem skX6_ok : SKOK RX6 skX6 := ⟨all_nil, all_nil, all_nil, (all_cons ⟨k_1069, k_561, kn_J9, k_562⟩ all_nil)⟩
def atX6 : List Nat := [69]
theorem atX6_ok : ATok RX6 atX6 := (all_cons ⟨k_1079, k_961, k_960, k_21⟩ all_nil)
theorem fo_X7_9 : FOK RX7 (9, 7, 0, 0) := ⟨RX7, TX7, 6, tyX7, rfl, by decide, ibX7, tyX7_ok, nmX7, k_328, (fun _ => ⟨rfl, rfl⟩)⟩
theorem fo_X7_15 : FOK RX7 (15, 7, 1, 0) := ⟨RX7, TX7, 6, tyX7, rfl, by decide, ibX7, tyX7_ok, nmX7, k_330, (fun _ => ⟨rfl, rfl⟩)⟩
theorem fo_X7_18 : FOK RX7 (18, 7, 2, 0) := ⟨RX7, TX7, 6, tyX7, rfl, by decide, ibX7, tyX7_ok, nmX7, k_332, (fun _ => ⟨rfl, rfl⟩)⟩
theorem fo_X7_21 : FOK RX7 (21, 7, 3, 0) := ⟨RX7, TX7, 6, tyX7, rfl, by decide, ibX7, tyX7_ok, nmX7, k_333, (fun _ => ⟨rfl, rfl⟩)⟩
theorem fo_X7_24 : FOK RX7 (24, 7, 4, 0) := ⟨RX7, TX7, 6, tyX7, rfl, by decide, ibX7, tyX7_ok, nmX7, k_334, (fun _ => ⟨rfl, rfl⟩)⟩
theorem fo_X7_29 : FOK RX7 (29, 7, 5, 5) := ⟨RX7, TX7, 6, tyX7, rfl, by decide, ibX7, tyX7_ok, nmX7, k_335, (fun h => absurd h (by decide))⟩
theorem fo_X7_67 : FOK RX7 (67, 0, 13, 0) := ⟨RX0, TX0, 20, tyX0, rfl, by decide, ibX0, tyX0_ok, nmX0, k_176, (fun _ => ⟨rfl, rfl⟩)⟩
theorem fo_X7_72 : FOK RX7 (72, 0, 14, 0) := ⟨RX0, TX0, 20, tyX0, rfl, by decide, ibX0, tyX0_ok, nmX0, k_180, (fun _ => ⟨rfl, rfl⟩)⟩
theorem fo_X7_75 : FOK RX7 (75, 0, 19, 5) := ⟨RX0, TX0, 20, tyX0, rfl, by decide, ibX0, tyX0_ok, nmX0, k_191, (fun h => absurd h (by decide))⟩
theorem fo_X7_85 : FOK RX7 (85, 8, 3, 5) := ⟨RX8, TX8, 6, tyX8, rfl, by decide, ibX8, tyX8_ok, nmX8, k_269, (fun h => absurd h (by decide))⟩
theorem fo_X7_89 : FOK RX7 (89, 0, 2, 5) := ⟨RX0, TX0, 20, tyX0, rfl, by decide, ibX0, tyX0_ok, nmX0, k_143, (fun h => absurd h (by decide))⟩
def ftX7 : List (Nat × Nat × Nat × Nat) := [(9, 7, 0, 0), (15, 7, 1, 0), (18, 7, 2, 0), (21, 7, 3, 0), (24, 7, 4, 0), (29, 7, 5, 5), (67, 0, 13, 0), (72, 0, 14, 0), (75, 0, 19, 5), (85, 8, 3, 5), (89, 0, 2, 5)]
theorem ftX7_ok : ∀ q ∈ ftX7, FOK RX7 q := (all_cons fo_X7_9 (all_cons fo_X7_15 (all_cons fo_X7_18 (all_cons fo_X7_21 (all_cons fo_X7_24 (all_cons fo_X7_29 (all_cons fo_X7_67 (all_cons fo_X7_72 (all_cons fo_X7_75 (all_cons fo_X7_85 (all_cons fo_X7_89 all_nil)))))))))))
def ktX7 : KT := (ftX7, [(40, 1000000)], [])
theorem ktX7_ok : KOK RX7 ktX7 := ⟨ftX7_ok, (all_cons k_1018 all_nil), all_nil⟩
theorem co_X7_41 : COK MT RX7 (41, 0, 69, 1, 8) := ⟨k_1019, kn_X8, kc_X8_copies, ⟨by decide +kernel, by decide +kernel, by decide +kernel⟩, ⟨ki_X8_copies, kz_X8_copies, TX8, 6, rfl⟩⟩
theorem co_X7_45 : COK MT RX7 (45, 0, 61, 3, 7) := ⟨k_1020, kn_X7, kc_X7_search, ⟨by decide +kernel, by decide +kernel, by decide +kernel⟩, ⟨ki_X7_search, kz_X7_search, TX7, 6, rfl⟩⟩
theorem co_X7_49 : COK MT RX7 (49, 0, 65, 3, 7) := ⟨k_1024, kn_X7, kc_X7_costOf, ⟨by decide +kernel, by decide +kernel, by decide +kernel⟩, ⟨ki_X7_costOf, kz_X7_costOf, TX7, 6, rfl⟩⟩
theorem co_X7_53 : COK MT RX7 (53, 0, 66, 3, 7) := ⟨k_1036, kn_X7, kc_X7_feedsAll, ⟨by decide +kernel, by decide +kernel, by decide +kernel⟩, ⟨ki_X7_feedsAll, kz_X7_feedsAll, TX7, 6, rfl⟩⟩
theorem co_X7_57 : COK MT RX7 (57, 0, 67, 3, 7) := ⟨k_1044, kn_X7, kc_X7_chooses, ⟨by decide +kernel, by decide +kernel, by decide +kernel⟩, ⟨ki_X7_chooses, kz_X7_chooses, TX7, 6, rfl⟩⟩
theorem co_X7_60 : COK MT RX7 (60, 1, 62, 1, 7) := ⟨k_1028, kn_X7, kc_X7_eaterOf, ⟨by decide +kernel, by decide +kernel, by decide +kernel⟩, kt_X7_eaterOf⟩
theorem co_X7_64 : COK MT RX7 (64, 1, 63, 1, 7) := ⟨k_1031, kn_X7, kc_X7_dishOf, ⟨by decide +kernel, by decide +kernel, by decide +kernel⟩, kt_X7_dishOf⟩
theorem co_X7_79 : COK MT RX7 (79, 0, 73, 3, 8) := ⟨k_1034, kn_X8, kc_X8_canEat, ⟨by decide +kernel, by decide +kernel, by decide +kernel⟩, ⟨ki_X8_canEat, kz_X8_canEat, TX8, 6, rfl⟩⟩
theorem co_X7_82 : COK MT RX7 (82, 0, 5, 2, 0) := ⟨k_1035, kn_X0, kc_X0_costBy, ⟨by decide +kernel, by decide +kernel, by decide +kernel⟩, ⟨ki_X0_costBy, kz_X0_costBy, TX0, 20, rfl⟩⟩
theorem co_X7_92 : COK MT RX7 (92, 1, 64, 1, 7) := ⟨k_1040, kn_X7, kc_X7_isSlow, ⟨by decide +kernel, by decide +kernel, by decide +kernel⟩, kt_X7_isSlow⟩
theorem co_X7_96 : COK MT RX7 (96, 0, 75, 5, 8) := ⟨k_1043, kn_X8, kc_X8_gain, ⟨by decide +kernel, by decide +kernel, by decide +kernel⟩, ⟨ki_X8_gain, kz_X8_gain, TX8, 6, rfl⟩⟩
theorem co_X7_100 : COK MT RX7 (100, 0, 76, 4, 8) := ⟨k_1048, kn_X8, kc_X8_takesMeal, ⟨by decide +kernel, by decide +kernel, by decide +kernel⟩, ⟨ki_X8_takesMeal, kz_X8_takesMeal, TX8, 6, rfl⟩⟩
theorem co_X7_104 : COK MT RX7 (104, 0, 79, 1, 8) := ⟨k_1049, kn_X8, kc_X8_endsDay, ⟨by decide +kernel, by decide +kernel, by decide +kernel⟩, ⟨ki_X8_endsDay, kz_X8_endsDay, TX8, 6, rfl⟩⟩
def ctX7 : CTT := [(41, 0, 69, 1, 8), (45, 0, 61, 3, 7), (49, 0, 65, 3, 7), (53, 0, 66, 3, 7), (57, 0, 67, 3, 7), (60, 1, 62, 1, 7), (64, 1, 63, 1, 7), (79, 0, 73, 3, 8), (82, 0, 5, 2, 0), (92, 1, 64, 1, 7), (96, 0, 75, 5, 8), (100, 0, 76, 4, 8), (104, 0, 79, 1, 8)]
theorem ctX7_ok : ∀ q ∈ ctX7, COK MT RX7 q := (all_cons co_X7_41 (all_cons co_X7_45 (all_cons co_X7_49 (all_cons co_X7_53 (all_cons co_X7_57 (all_cons co_X7_60 (all_cons co_X7_64 (all_cons co_X7_79 (all_cons co_X7_82 (all_cons co_X7_92 (all_cons co_X7_96 (all_cons co_X7_100 (all_cons co_X7_104 all_nil)))))))))))))
def skX7 : SKT := ([], [], [], [(34, 1)])
theorem skX7_ok : SKOK RX7 skX7 := ⟨all_nil, all_nil, all_nil, (all_cons ⟨k_1017, k_564, kn_J9, k_565⟩ all_nil)⟩
def atX7 : List Nat := []
theorem atX7_ok : ATok RX7 atX7 := all_nil
theorem fo_X8_9 : FOK RX8 (9, 8, 0, 0) := ⟨RX8, TX8, 6, tyX8, rfl, by decide, ibX8, tyX8_ok, nmX8, k_260, (fun _ => ⟨rfl, rfl⟩)⟩
theorem fo_X8_15 : FOK RX8 (15, 8, 1, 0) := ⟨RX8, TX8, 6, tyX8, rfl, by decide, ibX8, tyX8_ok, nmX8, k_262, (fun _ => ⟨rfl, rfl⟩)⟩
theorem fo_X8_18 : FOK RX8 (18, 8, 2, 0) := ⟨RX8, TX8, 6, tyX8, rfl, by decide, ibX8, tyX8_ok, nmX8, k_264, (fun _ => ⟨rfl, rfl⟩)⟩
theorem fo_X8_21 : FOK RX8 (21, 8, 3, 5) := ⟨RX8, TX8, 6, tyX8, rfl, by decide, ibX8, tyX8_ok, nmX8, k_266, (fun h => absurd h (by decide))⟩
theorem fo_X8_25 : FOK RX8 (25, 8, 4, 5) := ⟨RX8, TX8, 6, tyX8, rfl, by decide, ibX8, tyX8_ok, nmX8, k_270, (fun h => absurd h (by decide))⟩
theorem fo_X8_28 : FOK RX8 (28, 8, 5, 5) := ⟨RX8, TX8, 6, tyX8, rfl, by decide, ibX8, tyX8_ok, nmX8, k_272, (fun h => absurd h (by decide))⟩
theorem fo_X8_31 : FOK RX8 (31, 0, 15, 0) := ⟨RX0, TX0, 20, tyX0, rfl, by decide, ibX0, tyX0_ok, nmX0, k_183, (fun _ => ⟨rfl, rfl⟩)⟩
theorem fo_X8_54 : FOK RX8 (54, 0, 13, 0) := ⟨RX0, TX0, 20, tyX0, rfl, by decide, ibX0, tyX0_ok, nmX0, k_175, (fun _ => ⟨rfl, rfl⟩)⟩
theorem fo_X8_65 : FOK RX8 (65, 0, 16, 0) := ⟨RX0, TX0, 20, tyX0, rfl, by decide, ibX0, tyX0_ok, nmX0, k_186, (fun _ => ⟨rfl, rfl⟩)⟩
theorem fo_X8_90 : FOK RX8 (90, 0, 2, 5) := ⟨RX0, TX0, 20, tyX0, rfl, by decide, ibX0, tyX0_ok, nmX0, k_144, (fun h => absurd h (by decide))⟩
def ftX8 : List (Nat × Nat × Nat × Nat) := [(9, 8, 0, 0), (15, 8, 1, 0), (18, 8, 2, 0), (21, 8, 3, 5), (25, 8, 4, 5), (28, 8, 5, 5), (31, 0, 15, 0), (54, 0, 13, 0), (65, 0, 16, 0), (90, 0, 2, 5)]
theorem ftX8_ok : ∀ q ∈ ftX8, FOK RX8 q := (all_cons fo_X8_9 (all_cons fo_X8_15 (all_cons fo_X8_18 (all_cons fo_X8_21 (all_cons fo_X8_25 (all_cons fo_X8_28 (all_cons fo_X8_31 (all_cons fo_X8_54 (all_cons fo_X8_65 (all_cons fo_X8_90 all_nil))))))))))
def ktX8 : KT := (ftX8, [], [])
theorem ktX8_ok : KOK RX8 ktX8 := ⟨ftX8_ok, all_nil, all_nil⟩
theorem co_X8_34 : COK MT RX8 (34, 1, 255, 2, 0) := ⟨k_850, kn_J7, kc_J7_fill_53178, ⟨by decide +kernel, by decide +kernel, by decide +kernel⟩, kt_J7_fill_53178⟩
theorem co_X8_40 : COK MT RX8 (40, 0, 70, 1, 8) := ⟨k_955, kn_X8, kc_X8_copiesDay, ⟨by decide +kernel, by decide +kernel, by decide +kernel⟩, ⟨ki_X8_copiesDay, kz_X8_copiesDay, TX8, 6, rfl⟩⟩
theorem co_X8_50 : COK MT RX8 (50, 0, 3, 2, 0) := ⟨k_902, kn_X0, kc_X0_isSick, ⟨by decide +kernel, by decide +kernel, by decide +kernel⟩, ⟨ki_X0_isSick, kz_X0_isSick, TX0, 20, rfl⟩⟩
theorem co_X8_57 : COK MT RX8 (57, 0, 71, 2, 8) := ⟨k_926, kn_X8, kc_X8_sits, ⟨by decide +kernel, by decide +kernel, by decide +kernel⟩, ⟨ki_X8_sits, kz_X8_sits, TX8, 6, rfl⟩⟩
theorem co_X8_61 : COK MT RX8 (61, 0, 5, 2, 0) := ⟨k_927, kn_X0, kc_X0_costBy, ⟨by decide +kernel, by decide +kernel, by decide +kernel⟩, ⟨ki_X0_costBy, kz_X0_costBy, TX0, 20, rfl⟩⟩
theorem co_X8_68 : COK MT RX8 (68, 0, 74, 2, 8) := ⟨k_935, kn_X8, kc_X8_wouldBeIll, ⟨by decide +kernel, by decide +kernel, by decide +kernel⟩, ⟨ki_X8_wouldBeIll, kz_X8_wouldBeIll, TX8, 6, rfl⟩⟩
theorem co_X8_71 : COK MT RX8 (71, 0, 6, 4, 0) := ⟨k_939, kn_X0, kc_X0_gift, ⟨by decide +kernel, by decide +kernel, by decide +kernel⟩, ⟨ki_X0_gift, kz_X0_gift, TX0, 20, rfl⟩⟩
theorem co_X8_75 : COK MT RX8 (75, 0, 75, 5, 8) := ⟨k_967, kn_X8, kc_X8_gain, ⟨by decide +kernel, by decide +kernel, by decide +kernel⟩, ⟨ki_X8_gain, kz_X8_gain, TX8, 6, rfl⟩⟩
theorem co_X8_79 : COK MT RX8 (79, 0, 78, 2, 8) := ⟨k_968, kn_X8, kc_X8_fill, ⟨by decide +kernel, by decide +kernel, by decide +kernel⟩, ⟨ki_X8_fill, kz_X8_fill, TX8, 6, rfl⟩⟩
theorem co_X8_82 : COK MT RX8 (82, 0, 7, 2, 0) := ⟨k_985, kn_X0, kc_X0_giftAbroad, ⟨by decide +kernel, by decide +kernel, by decide +kernel⟩, ⟨ki_X0_giftAbroad, kz_X0_giftAbroad, TX0, 20, rfl⟩⟩
def ctX8 : CTT := [(34, 1, 255, 2, 0), (40, 0, 70, 1, 8), (50, 0, 3, 2, 0), (57, 0, 71, 2, 8), (61, 0, 5, 2, 0), (68, 0, 74, 2, 8), (71, 0, 6, 4, 0), (75, 0, 75, 5, 8), (79, 0, 78, 2, 8), (82, 0, 7, 2, 0)]
theorem ctX8_ok : ∀ q ∈ ctX8, COK MT RX8 q := (all_cons co_X8_34 (all_cons co_X8_40 (all_cons co_X8_50 (all_cons co_X8_57 (all_cons co_X8_61 (all_cons co_X8_68 (all_cons co_X8_71 (all_cons co_X8_75 (all_cons co_X8_79 (all_cons co_X8_82 all_nil))))))))))
def skX8 : SKT := ([], [], [], [(85, 1)])
theorem skX8_ok : SKOK RX8 skX8 := ⟨all_nil, all_nil, all_nil, (all_cons ⟨k_972, k_564, kn_J9, k_565⟩ all_nil)⟩
def atX8 : List Nat := [44]
theorem atX8_ok : ATok RX8 atX8 := (all_cons ⟨k_959, k_961, k_960, k_21⟩ all_nil)
theorem fo_X9_9 : FOK RX9 (9, 9, 0, 5) := ⟨RX9, TX9, 9, tyX9, rfl, by decide, ibX9, tyX9_ok, nmX9, k_41, (fun h => absurd h (by decide))⟩
theorem fo_X9_15 : FOK RX9 (15, 9, 1, 0) := ⟨RX9, TX9, 9, tyX9, rfl, by decide, ibX9, tyX9_ok, nmX9, k_42, (fun _ => ⟨rfl, rfl⟩)⟩
theorem fo_X9_19 : FOK RX9 (19, 9, 2, 0) := ⟨RX9, TX9, 9, tyX9, rfl, by decide, ibX9, tyX9_ok, nmX9, k_44, (fun _ => ⟨rfl, rfl⟩)⟩
theorem fo_X9_22 : FOK RX9 (22, 9, 3, 0) := ⟨RX9, TX9, 9, tyX9, rfl, by decide, ibX9, tyX9_ok, nmX9, k_46, (fun _ => ⟨rfl, rfl⟩)⟩
theorem fo_X9_25 : FOK RX9 (25, 9, 4, 0) := ⟨RX9, TX9, 9, tyX9, rfl, by decide, ibX9, tyX9_ok, nmX9, k_50, (fun _ => ⟨rfl, rfl⟩)⟩
theorem fo_X9_28 : FOK RX9 (28, 9, 5, 2) := ⟨RX9, TX9, 9, tyX9, rfl, by decide, ibX9, tyX9_ok, nmX9, k_53, (fun _ => ⟨rfl, rfl⟩)⟩
theorem fo_X9_32 : FOK RX9 (32, 9, 6, 3) := ⟨RX9, TX9, 9, tyX9, rfl, by decide, ibX9, tyX9_ok, nmX9, k_55, (fun _ => ⟨rfl, rfl⟩)⟩
theorem fo_X9_36 : FOK RX9 (36, 9, 7, 0) := ⟨RX9, TX9, 9, tyX9, rfl, by decide, ibX9, tyX9_ok, nmX9, k_58, (fun _ => ⟨rfl, rfl⟩)⟩
theorem fo_X9_39 : FOK RX9 (39, 9, 8, 0) := ⟨RX9, TX9, 9, tyX9, rfl, by decide, ibX9, tyX9_ok, nmX9, k_59, (fun _ => ⟨rfl, rfl⟩)⟩
def ftX9 : List (Nat × Nat × Nat × Nat) := [(9, 9, 0, 5), (15, 9, 1, 0), (19, 9, 2, 0), (22, 9, 3, 0), (25, 9, 4, 0), (28, 9, 5, 2), (32, 9, 6, 3), (36, 9, 7, 0), (39, 9, 8, 0)]
theorem ftX9_ok : ∀ q ∈ ftX9, FOK RX9 q := (all_cons fo_X9_9 (all_cons fo_X9_15 (all_cons fo_X9_19 (all_cons fo_X9_22 (all_cons fo_X9_25 (all_cons fo_X9_28 (all_cons fo_X9_32 (all_cons fo_X9_36 (all_cons fo_X9_39 all_nil)))))))))
def ktX9 : KT := (ftX9, [], [(42, 255), (72, 32)])
theorem ktX9_ok : KOK RX9 ktX9 := ⟨ftX9_ok, all_nil, (all_cons k_480 (all_cons k_523 all_nil))⟩
theorem co_X9_44 : COK MT RX9 (44, 1, 85, 1, 9) := ⟨k_510, kn_X9, kc_X9_isBlank, ⟨by decide +kernel, by decide +kernel, by decide +kernel⟩, kt_X9_isBlank⟩
theorem co_X9_48 : COK MT RX9 (48, 1, 86, 1, 9) := ⟨k_513, kn_X9, kc_X9_isLetter, ⟨by decide +kernel, by decide +kernel, by decide +kernel⟩, kt_X9_isLetter⟩
theorem co_X9_51 : COK MT RX9 (51, 0, 83, 0, 9) := ⟨k_516, kn_X9, kc_X9_takesLetters, ⟨by decide +kernel, by decide +kernel, by decide +kernel⟩, ⟨ki_X9_takesLetters, kz_X9_takesLetters, TX9, 9, rfl⟩⟩
theorem co_X9_54 : COK MT RX9 (54, 1, 87, 1, 9) := ⟨k_524, kn_X9, kc_X9_isDigit, ⟨by decide +kernel, by decide +kernel, by decide +kernel⟩, kt_X9_isDigit⟩
theorem co_X9_57 : COK MT RX9 (57, 0, 84, 0, 9) := ⟨k_527, kn_X9, kc_X9_takesDigits, ⟨by decide +kernel, by decide +kernel, by decide +kernel⟩, ⟨ki_X9_takesDigits, kz_X9_takesDigits, TX9, 9, rfl⟩⟩
theorem co_X9_62 : COK MT RX9 (62, 2, 246, 1, 0) := ⟨k_532, kn_J0, kc_J0_indexOf_0f7a4, ⟨by decide +kernel, by decide +kernel, by decide +kernel⟩, ⟨ki_J0_indexOf_0f7a4, kz_J0_indexOf_0f7a4, rfl⟩⟩
theorem co_X9_68 : COK MT RX9 (68, 1, 88, 2, 9) := ⟨k_520, kn_X9, kc_X9_withLetter, ⟨by decide +kernel, by decide +kernel, by decide +kernel⟩, kt_X9_withLetter⟩
theorem co_X9_74 : COK MT RX9 (74, 2, 244, 0, 0) := ⟨k_623, kn_J0, kc_J0_length_8abf5, ⟨by decide +kernel, by decide +kernel, by decide +kernel⟩, ⟨ki_J0_length_8abf5, kz_J0_length_8abf5, rfl⟩⟩
theorem co_X9_77 : COK MT RX9 (77, 2, 245, 1, 0) := ⟨k_624, kn_J0, kc_J0_charAt_5068e, ⟨by decide +kernel, by decide +kernel, by decide +kernel⟩, ⟨ki_J0_charAt_5068e, kz_J0_charAt_5068e, rfl⟩⟩
theorem co_X9_83 : COK MT RX9 (83, 0, 82, 0, 9) := ⟨k_658, kn_X9, kc_X9_takesToken, ⟨by decide +kernel, by decide +kernel, by decide +kernel⟩, ⟨ki_X9_takesToken, kz_X9_takesToken, TX9, 9, rfl⟩⟩
theorem co_X9_86 : COK MT RX9 (86, 0, 89, 1, 9) := ⟨k_689, kn_X9, kc_X9_isWord, ⟨by decide +kernel, by decide +kernel, by decide +kernel⟩, ⟨ki_X9_isWord, kz_X9_isWord, TX9, 9, rfl⟩⟩
theorem co_X9_90 : COK MT RX9 (90, 0, 92, 1, 9) := ⟨k_664, kn_X9, kc_X9_wrong, ⟨by decide +kernel, by decide +kernel, by decide +kernel⟩, ⟨ki_X9_wrong, kz_X9_wrong, TX9, 9, rfl⟩⟩
theorem co_X9_93 : COK MT RX9 (93, 0, 90, 1, 9) := ⟨k_700, kn_X9, kc_X9_isSign, ⟨by decide +kernel, by decide +kernel, by decide +kernel⟩, ⟨ki_X9_isSign, kz_X9_isSign, TX9, 9, rfl⟩⟩
theorem co_X9_97 : COK MT RX9 (97, 0, 93, 1, 9) := ⟨k_685, kn_X9, kc_X9_takesWord, ⟨by decide +kernel, by decide +kernel, by decide +kernel⟩, ⟨ki_X9_takesWord, kz_X9_takesWord, TX9, 9, rfl⟩⟩
theorem co_X9_100 : COK MT RX9 (100, 0, 95, 2, 9) := ⟨k_690, kn_X9, kc_X9_takesNumber, ⟨by decide +kernel, by decide +kernel, by decide +kernel⟩, ⟨ki_X9_takesNumber, kz_X9_takesNumber, TX9, 9, rfl⟩⟩
theorem co_X9_104 : COK MT RX9 (104, 0, 91, 0, 9) := ⟨k_659, kn_X9, kc_X9_isName, ⟨by decide +kernel, by decide +kernel, by decide +kernel⟩, ⟨ki_X9_isName, kz_X9_isName, TX9, 9, rfl⟩⟩
theorem co_X9_108 : COK MT RX9 (108, 0, 1, 1, 0) := ⟨k_719, kn_X0, kc_X0_personNamed, ⟨by decide +kernel, by decide +kernel, by decide +kernel⟩, ⟨ki_X0_personNamed, kz_X0_personNamed, TX0, 20, rfl⟩⟩
theorem co_X9_114 : COK MT RX9 (114, 0, 2, 1, 0) := ⟨k_881, kn_X0, kc_X0_dishNamed, ⟨by decide +kernel, by decide +kernel, by decide +kernel⟩, ⟨ki_X0_dishNamed, kz_X0_dishNamed, TX0, 20, rfl⟩⟩
def ctX9 : CTT := [(44, 1, 85, 1, 9), (48, 1, 86, 1, 9), (51, 0, 83, 0, 9), (54, 1, 87, 1, 9), (57, 0, 84, 0, 9), (62, 2, 246, 1, 0), (68, 1, 88, 2, 9), (74, 2, 244, 0, 0), (77, 2, 245, 1, 0), (83, 0, 82, 0, 9), (86, 0, 89, 1, 9), (90, 0, 92, 1, 9), (93, 0, 90, 1, 9), (97, 0, 93, 1, 9), (100, 0, 95, 2, 9), (104, 0, 91, 0, 9), (108, 0, 1, 1, 0), (114, 0, 2, 1, 0)]
theorem ctX9_ok : ∀ q ∈ ctX9, COK MT RX9 q := (all_cons co_X9_44 (all_cons co_X9_48 (all_cons co_X9_51 (all_cons co_X9_54 (all_cons co_X9_57 (all_cons co_X9_62 (all_cons co_X9_68 (all_cons co_X9_74 (all_cons co_X9_77 (all_cons co_X9_83 (all_cons co_X9_86 (all_cons co_X9_90 (all_cons co_X9_93 (all_cons co_X9_97 (all_cons co_X9_100 (all_cons co_X9_104 (all_cons co_X9_108 (all_cons co_X9_114 all_nil))))))))))))))))))
def skX9 : SKT := ([(60, 29), (81, 30)], [], [], [])
theorem skX9_ok : SKOK RX9 skX9 := ⟨(all_cons ⟨_, rfl, rfl, rfl⟩ (all_cons ⟨_, rfl, rfl, rfl⟩ all_nil)), all_nil, all_nil, all_nil⟩
def atX9 : List Nat := []
theorem atX9_ok : ATok RX9 atX9 := all_nil
theorem fo_X10_9 : FOK RX10 (9, 10, 0, 5) := ⟨RX10, TX10, 4, tyX10, rfl, by decide, ibX10, tyX10_ok, nmX10, k_240, (fun h => absurd h (by decide))⟩
theorem fo_X10_15 : FOK RX10 (15, 10, 1, 5) := ⟨RX10, TX10, 4, tyX10, rfl, by decide, ibX10, tyX10_ok, nmX10, k_241, (fun h => absurd h (by decide))⟩
theorem fo_X10_18 : FOK RX10 (18, 10, 2, 5) := ⟨RX10, TX10, 4, tyX10, rfl, by decide, ibX10, tyX10_ok, nmX10, k_242, (fun h => absurd h (by decide))⟩
theorem fo_X10_21 : FOK RX10 (21, 10, 3, 0) := ⟨RX10, TX10, 4, tyX10, rfl, by decide, ibX10, tyX10_ok, nmX10, k_243, (fun _ => ⟨rfl, rfl⟩)⟩
theorem fo_X10_39 : FOK RX10 (39, 9, 3, 0) := ⟨RX9, TX9, 9, tyX9, rfl, by decide, ibX9, tyX9_ok, nmX9, k_48, (fun _ => ⟨rfl, rfl⟩)⟩
theorem fo_X10_75 : FOK RX10 (75, 9, 6, 3) := ⟨RX9, TX9, 9, tyX9, rfl, by decide, ibX9, tyX9_ok, nmX9, k_57, (fun _ => ⟨rfl, rfl⟩)⟩
def ftX10 : List (Nat × Nat × Nat × Nat) := [(9, 10, 0, 5), (15, 10, 1, 5), (18, 10, 2, 5), (21, 10, 3, 0), (39, 9, 3, 0), (75, 9, 6, 3)]
theorem ftX10_ok : ∀ q ∈ ftX10, FOK RX10 q := (all_cons fo_X10_9 (all_cons fo_X10_15 (all_cons fo_X10_18 (all_cons fo_X10_21 (all_cons fo_X10_39 (all_cons fo_X10_75 all_nil))))))
def ktX10 : KT := (ftX10, [], [])
theorem ktX10_ok : KOK RX10 ktX10 := ⟨ftX10_ok, all_nil, all_nil⟩
theorem co_X10_31 : COK MT RX10 (31, 0, 81, 0, 9) := ⟨k_860, kn_X9, kc_X9_rewind, ⟨by decide +kernel, by decide +kernel, by decide +kernel⟩, ⟨ki_X9_rewind, kz_X9_rewind, TX9, 9, rfl⟩⟩
theorem co_X10_36 : COK MT RX10 (36, 0, 82, 0, 9) := ⟨k_861, kn_X9, kc_X9_takesToken, ⟨by decide +kernel, by decide +kernel, by decide +kernel⟩, ⟨ki_X9_takesToken, kz_X9_takesToken, TX9, 9, rfl⟩⟩
theorem co_X10_42 : COK MT RX10 (42, 0, 102, 2, 10) := ⟨k_862, kn_X10, kc_X10_readsLine, ⟨by decide +kernel, by decide +kernel, by decide +kernel⟩, ⟨ki_X10_readsLine, kz_X10_readsLine, TX10, 4, rfl⟩⟩
theorem co_X10_46 : COK MT RX10 (46, 0, 92, 1, 9) := ⟨k_870, kn_X9, kc_X9_wrong, ⟨by decide +kernel, by decide +kernel, by decide +kernel⟩, ⟨ki_X9_wrong, kz_X9_wrong, TX9, 9, rfl⟩⟩
theorem co_X10_52 : COK MT RX10 (52, 0, 89, 1, 9) := ⟨k_867, kn_X9, kc_X9_isWord, ⟨by decide +kernel, by decide +kernel, by decide +kernel⟩, ⟨ki_X9_isWord, kz_X9_isWord, TX9, 9, rfl⟩⟩
theorem co_X10_60 : COK MT RX10 (60, 0, 103, 2, 10) := ⟨k_871, kn_X10, kc_X10_takesWhoAndWhat, ⟨by decide +kernel, by decide +kernel, by decide +kernel⟩, ⟨ki_X10_takesWhoAndWhat, kz_X10_takesWhoAndWhat, TX10, 4, rfl⟩⟩
theorem co_X10_63 : COK MT RX10 (63, 0, 104, 1, 10) := ⟨k_883, kn_X10, kc_X10_takesHow, ⟨by decide +kernel, by decide +kernel, by decide +kernel⟩, ⟨ki_X10_takesHow, kz_X10_takesHow, TX10, 4, rfl⟩⟩
theorem co_X10_67 : COK MT RX10 (67, 0, 94, 0, 9) := ⟨k_889, kn_X9, kc_X9_takesEnd, ⟨by decide +kernel, by decide +kernel, by decide +kernel⟩, ⟨ki_X9_takesEnd, kz_X9_takesEnd, TX9, 9, rfl⟩⟩
theorem co_X10_71 : COK MT RX10 (71, 0, 98, 1, 9) := ⟨k_875, kn_X9, kc_X9_takesPerson, ⟨by decide +kernel, by decide +kernel, by decide +kernel⟩, ⟨ki_X9_takesPerson, kz_X9_takesPerson, TX9, 9, rfl⟩⟩
theorem co_X10_79 : COK MT RX10 (79, 0, 1, 1, 0) := ⟨k_876, kn_X0, kc_X0_personNamed, ⟨by decide +kernel, by decide +kernel, by decide +kernel⟩, ⟨ki_X0_personNamed, kz_X0_personNamed, TX0, 20, rfl⟩⟩
theorem co_X10_85 : COK MT RX10 (85, 0, 99, 1, 9) := ⟨k_877, kn_X9, kc_X9_takesDish, ⟨by decide +kernel, by decide +kernel, by decide +kernel⟩, ⟨ki_X9_takesDish, kz_X9_takesDish, TX9, 9, rfl⟩⟩
theorem co_X10_88 : COK MT RX10 (88, 0, 2, 1, 0) := ⟨k_882, kn_X0, kc_X0_dishNamed, ⟨by decide +kernel, by decide +kernel, by decide +kernel⟩, ⟨ki_X0_dishNamed, kz_X0_dishNamed, TX0, 20, rfl⟩⟩
theorem co_X10_95 : COK MT RX10 (95, 0, 77, 3, 8) := ⟨k_1005, kn_X8, kc_X8_eatsAbroad, ⟨by decide +kernel, by decide +kernel, by decide +kernel⟩, ⟨ki_X8_eatsAbroad, kz_X8_eatsAbroad, TX8, 6, rfl⟩⟩
theorem co_X10_101 : COK MT RX10 (101, 0, 73, 3, 8) := ⟨k_1006, kn_X8, kc_X8_canEat, ⟨by decide +kernel, by decide +kernel, by decide +kernel⟩, ⟨ki_X8_canEat, kz_X8_canEat, TX8, 6, rfl⟩⟩
theorem co_X10_105 : COK MT RX10 (105, 0, 76, 4, 8) := ⟨k_1007, kn_X8, kc_X8_takesMeal, ⟨by decide +kernel, by decide +kernel, by decide +kernel⟩, ⟨ki_X8_takesMeal, kz_X8_takesMeal, TX8, 6, rfl⟩⟩
theorem co_X10_109 : COK MT RX10 (109, 0, 79, 1, 8) := ⟨k_1008, kn_X8, kc_X8_endsDay, ⟨by decide +kernel, by decide +kernel, by decide +kernel⟩, ⟨ki_X8_endsDay, kz_X8_endsDay, TX8, 6, rfl⟩⟩
def ctX10 : CTT := [(31, 0, 81, 0, 9), (36, 0, 82, 0, 9), (42, 0, 102, 2, 10), (46, 0, 92, 1, 9), (52, 0, 89, 1, 9), (60, 0, 103, 2, 10), (63, 0, 104, 1, 10), (67, 0, 94, 0, 9), (71, 0, 98, 1, 9), (79, 0, 1, 1, 0), (85, 0, 99, 1, 9), (88, 0, 2, 1, 0), (95, 0, 77, 3, 8), (101, 0, 73, 3, 8), (105, 0, 76, 4, 8), (109, 0, 79, 1, 8)]
theorem ctX10_ok : ∀ q ∈ ctX10, COK MT RX10 q := (all_cons co_X10_31 (all_cons co_X10_36 (all_cons co_X10_42 (all_cons co_X10_46 (all_cons co_X10_52 (all_cons co_X10_60 (all_cons co_X10_63 (all_cons co_X10_67 (all_cons co_X10_71 (all_cons co_X10_79 (all_cons co_X10_85 (all_cons co_X10_88 (all_cons co_X10_95 (all_cons co_X10_101 (all_cons co_X10_105 (all_cons co_X10_109 all_nil))))))))))))))))
def skX10 : SKT := ([(50, 31), (56, 32), (58, 33), (91, 34), (93, 35)], [], [], [])
theorem skX10_ok : SKOK RX10 skX10 := ⟨(all_cons ⟨_, rfl, rfl, rfl⟩ (all_cons ⟨_, rfl, rfl, rfl⟩ (all_cons ⟨_, rfl, rfl, rfl⟩ (all_cons ⟨_, rfl, rfl, rfl⟩ (all_cons ⟨_, rfl, rfl, rfl⟩ all_nil))))), all_nil, all_nil, all_nil⟩
def atX10 : List Nat := [25]
theorem atX10_ok : ATok RX10 atX10 := (all_cons ⟨k_1198, k_961, k_960, k_21⟩ all_nil)
theorem fo_X11_10 : FOK RX11 (10, 11, 0, 5) := ⟨RX11, TX11, 17, tyX11, rfl, by decide, ibX11, tyX11_ok, nmX11, k_420, (fun h => absurd h (by decide))⟩
theorem fo_X11_19 : FOK RX11 (19, 11, 1, 5) := ⟨RX11, TX11, 17, tyX11, rfl, by decide, ibX11, tyX11_ok, nmX11, k_421, (fun h => absurd h (by decide))⟩
theorem fo_X11_26 : FOK RX11 (26, 11, 2, 4) := ⟨RX11, TX11, 17, tyX11, rfl, by decide, ibX11, tyX11_ok, nmX11, k_422, (fun _ => ⟨rfl, _, rfl⟩)⟩
theorem fo_X11_30 : FOK RX11 (30, 11, 3, 4) := ⟨RX11, TX11, 17, tyX11, rfl, by decide, ibX11, tyX11_ok, nmX11, k_423, (fun _ => ⟨rfl, _, rfl⟩)⟩
theorem fo_X11_36 : FOK RX11 (36, 11, 4, 4) := ⟨RX11, TX11, 17, tyX11, rfl, by decide, ibX11, tyX11_ok, nmX11, k_424, (fun _ => ⟨rfl, _, rfl⟩)⟩
theorem fo_X11_40 : FOK RX11 (40, 11, 5, 4) := ⟨RX11, TX11, 17, tyX11, rfl, by decide, ibX11, tyX11_ok, nmX11, k_425, (fun _ => ⟨rfl, _, rfl⟩)⟩
theorem fo_X11_46 : FOK RX11 (46, 11, 6, 5) := ⟨RX11, TX11, 17, tyX11, rfl, by decide, ibX11, tyX11_ok, nmX11, k_426, (fun h => absurd h (by decide))⟩
theorem fo_X11_50 : FOK RX11 (50, 11, 7, 5) := ⟨RX11, TX11, 17, tyX11, rfl, by decide, ibX11, tyX11_ok, nmX11, k_427, (fun h => absurd h (by decide))⟩
theorem fo_X11_53 : FOK RX11 (53, 11, 8, 5) := ⟨RX11, TX11, 17, tyX11, rfl, by decide, ibX11, tyX11_ok, nmX11, k_428, (fun h => absurd h (by decide))⟩
theorem fo_X11_57 : FOK RX11 (57, 11, 9, 0) := ⟨RX11, TX11, 17, tyX11, rfl, by decide, ibX11, tyX11_ok, nmX11, k_429, (fun _ => ⟨rfl, rfl⟩)⟩
theorem fo_X11_61 : FOK RX11 (61, 11, 10, 0) := ⟨RX11, TX11, 17, tyX11, rfl, by decide, ibX11, tyX11_ok, nmX11, k_430, (fun _ => ⟨rfl, rfl⟩)⟩
theorem fo_X11_66 : FOK RX11 (66, 11, 11, 5) := ⟨RX11, TX11, 17, tyX11, rfl, by decide, ibX11, tyX11_ok, nmX11, k_431, (fun h => absurd h (by decide))⟩
theorem fo_X11_73 : FOK RX11 (73, 11, 12, 5) := ⟨RX11, TX11, 17, tyX11, rfl, by decide, ibX11, tyX11_ok, nmX11, k_432, (fun h => absurd h (by decide))⟩
theorem fo_X11_80 : FOK RX11 (80, 11, 13, 5) := ⟨RX11, TX11, 17, tyX11, rfl, by decide, ibX11, tyX11_ok, nmX11, k_433, (fun h => absurd h (by decide))⟩
theorem fo_X11_87 : FOK RX11 (87, 11, 14, 5) := ⟨RX11, TX11, 17, tyX11, rfl, by decide, ibX11, tyX11_ok, nmX11, k_434, (fun h => absurd h (by decide))⟩
theorem fo_X11_94 : FOK RX11 (94, 11, 15, 5) := ⟨RX11, TX11, 17, tyX11, rfl, by decide, ibX11, tyX11_ok, nmX11, k_435, (fun h => absurd h (by decide))⟩
theorem fo_X11_98 : FOK RX11 (98, 11, 16, 5) := ⟨RX11, TX11, 17, tyX11, rfl, by decide, ibX11, tyX11_ok, nmX11, k_436, (fun h => absurd h (by decide))⟩
theorem fo_X11_107 : FOK RX11 (107, 9, 1, 0) := ⟨RX9, TX9, 9, tyX9, rfl, by decide, ibX9, tyX9_ok, nmX9, k_43, (fun _ => ⟨rfl, rfl⟩)⟩
theorem fo_X11_120 : FOK RX11 (120, 9, 2, 0) := ⟨RX9, TX9, 9, tyX9, rfl, by decide, ibX9, tyX9_ok, nmX9, k_45, (fun _ => ⟨rfl, rfl⟩)⟩
theorem fo_X11_128 : FOK RX11 (128, 0, 1, 5) := ⟨RX0, TX0, 20, tyX0, rfl, by decide, ibX0, tyX0_ok, nmX0, k_139, (fun h => absurd h (by decide))⟩
theorem fo_X11_131 : FOK RX11 (131, 0, 2, 5) := ⟨RX0, TX0, 20, tyX0, rfl, by decide, ibX0, tyX0_ok, nmX0, k_142, (fun h => absurd h (by decide))⟩
theorem fo_X11_134 : FOK RX11 (134, 0, 3, 5) := ⟨RX0, TX0, 20, tyX0, rfl, by decide, ibX0, tyX0_ok, nmX0, k_148, (fun h => absurd h (by decide))⟩
theorem fo_X11_137 : FOK RX11 (137, 0, 4, 5) := ⟨RX0, TX0, 20, tyX0, rfl, by decide, ibX0, tyX0_ok, nmX0, k_151, (fun h => absurd h (by decide))⟩
theorem fo_X11_140 : FOK RX11 (140, 8, 3, 5) := ⟨RX8, TX8, 6, tyX8, rfl, by decide, ibX8, tyX8_ok, nmX8, k_268, (fun h => absurd h (by decide))⟩
theorem fo_X11_147 : FOK RX11 (147, 8, 4, 5) := ⟨RX8, TX8, 6, tyX8, rfl, by decide, ibX8, tyX8_ok, nmX8, k_271, (fun h => absurd h (by decide))⟩
theorem fo_X11_150 : FOK RX11 (150, 8, 5, 5) := ⟨RX8, TX8, 6, tyX8, rfl, by decide, ibX8, tyX8_ok, nmX8, k_273, (fun h => absurd h (by decide))⟩
theorem fo_X11_156 : FOK RX11 (156, 0, 9, 5) := ⟨RX0, TX0, 20, tyX0, rfl, by decide, ibX0, tyX0_ok, nmX0, k_161, (fun h => absurd h (by decide))⟩
theorem fo_X11_159 : FOK RX11 (159, 0, 10, 5) := ⟨RX0, TX0, 20, tyX0, rfl, by decide, ibX0, tyX0_ok, nmX0, k_164, (fun h => absurd h (by decide))⟩
theorem fo_X11_162 : FOK RX11 (162, 0, 11, 5) := ⟨RX0, TX0, 20, tyX0, rfl, by decide, ibX0, tyX0_ok, nmX0, k_167, (fun h => absurd h (by decide))⟩
theorem fo_X11_188 : FOK RX11 (188, 8, 0, 0) := ⟨RX8, TX8, 6, tyX8, rfl, by decide, ibX8, tyX8_ok, nmX8, k_261, (fun _ => ⟨rfl, rfl⟩)⟩
theorem fo_X11_199 : FOK RX11 (199, 10, 3, 0) := ⟨RX10, TX10, 4, tyX10, rfl, by decide, ibX10, tyX10_ok, nmX10, k_244, (fun _ => ⟨rfl, rfl⟩)⟩
theorem fo_X11_204 : FOK RX11 (204, 8, 1, 0) := ⟨RX8, TX8, 6, tyX8, rfl, by decide, ibX8, tyX8_ok, nmX8, k_263, (fun _ => ⟨rfl, rfl⟩)⟩
theorem fo_X11_211 : FOK RX11 (211, 7, 0, 0) := ⟨RX7, TX7, 6, tyX7, rfl, by decide, ibX7, tyX7_ok, nmX7, k_329, (fun _ => ⟨rfl, rfl⟩)⟩
theorem fo_X11_214 : FOK RX11 (214, 7, 1, 0) := ⟨RX7, TX7, 6, tyX7, rfl, by decide, ibX7, tyX7_ok, nmX7, k_331, (fun _ => ⟨rfl, rfl⟩)⟩
theorem fo_X11_223 : FOK RX11 (223, 6, 0, 0) := ⟨RX6, TX6, 7, tyX6, rfl, by decide, ibX6, tyX6_ok, nmX6, k_356, (fun _ => ⟨rfl, rfl⟩)⟩
theorem fo_X11_226 : FOK RX11 (226, 6, 1, 5) := ⟨RX6, TX6, 7, tyX6, rfl, by decide, ibX6, tyX6_ok, nmX6, k_358, (fun h => absurd h (by decide))⟩
theorem fo_X11_233 : FOK RX11 (233, 2, 0, 5) := ⟨RX2, TX2, 5, tyX2, rfl, by decide, ibX2, tyX2_ok, nmX2, k_301, (fun h => absurd h (by decide))⟩
theorem fo_X11_240 : FOK RX11 (240, 2, 1, 0) := ⟨RX2, TX2, 5, tyX2, rfl, by decide, ibX2, tyX2_ok, nmX2, k_303, (fun _ => ⟨rfl, rfl⟩)⟩
theorem fo_X11_247 : FOK RX11 (247, 2, 2, 0) := ⟨RX2, TX2, 5, tyX2, rfl, by decide, ibX2, tyX2_ok, nmX2, k_305, (fun _ => ⟨rfl, rfl⟩)⟩
theorem fo_X11_250 : FOK RX11 (250, 2, 3, 0) := ⟨RX2, TX2, 5, tyX2, rfl, by decide, ibX2, tyX2_ok, nmX2, k_307, (fun _ => ⟨rfl, rfl⟩)⟩
theorem fo_X11_273 : FOK RX11 (273, 5, 0, 0) := ⟨RX5, TX5, 3, tyX5, rfl, by decide, ibX5, tyX5_ok, nmX5, k_386, (fun _ => ⟨rfl, rfl⟩)⟩
theorem fo_X11_274 : FOK RX11 (274, 5, 1, 5) := ⟨RX5, TX5, 3, tyX5, rfl, by decide, ibX5, tyX5_ok, nmX5, k_388, (fun h => absurd h (by decide))⟩
theorem fo_X11_287 : FOK RX11 (287, 8, 2, 0) := ⟨RX8, TX8, 6, tyX8, rfl, by decide, ibX8, tyX8_ok, nmX8, k_265, (fun _ => ⟨rfl, rfl⟩)⟩
theorem fo_X11_298 : FOK RX11 (298, 0, 13, 0) := ⟨RX0, TX0, 20, tyX0, rfl, by decide, ibX0, tyX0_ok, nmX0, k_177, (fun _ => ⟨rfl, rfl⟩)⟩
theorem fo_X11_301 : FOK RX11 (301, 0, 14, 0) := ⟨RX0, TX0, 20, tyX0, rfl, by decide, ibX0, tyX0_ok, nmX0, k_181, (fun _ => ⟨rfl, rfl⟩)⟩
theorem fo_X11_307 : FOK RX11 (307, 4, 0, 1) := ⟨RX4, TX4, 4, tyX4, rfl, by decide, ibX4, tyX4_ok, nmX4, k_407, (fun _ => ⟨rfl, rfl⟩)⟩
def ftX11 : List (Nat × Nat × Nat × Nat) := [(10, 11, 0, 5), (19, 11, 1, 5), (26, 11, 2, 4), (30, 11, 3, 4), (36, 11, 4, 4), (40, 11, 5, 4), (46, 11, 6, 5), (50, 11, 7, 5), (53, 11, 8, 5), (57, 11, 9, 0), (61, 11, 10, 0), (66, 11, 11, 5), (73, 11, 12, 5), (80, 11, 13, 5), (87, 11, 14, 5), (94, 11, 15, 5), (98, 11, 16, 5), (107, 9, 1, 0), (120, 9, 2, 0), (128, 0, 1, 5), (131, 0, 2, 5), (134, 0, 3, 5), (137, 0, 4, 5), (140, 8, 3, 5), (147, 8, 4, 5), (150, 8, 5, 5), (156, 0, 9, 5), (159, 0, 10, 5), (162, 0, 11, 5), (188, 8, 0, 0), (199, 10, 3, 0), (204, 8, 1, 0), (211, 7, 0, 0), (214, 7, 1, 0), (223, 6, 0, 0), (226, 6, 1, 5), (233, 2, 0, 5), (240, 2, 1, 0), (247, 2, 2, 0), (250, 2, 3, 0), (273, 5, 0, 0), (274, 5, 1, 5), (287, 8, 2, 0), (298, 0, 13, 0), (301, 0, 14, 0), (307, 4, 0, 1)]
theorem ftX11_ok : ∀ q ∈ ftX11, FOK RX11 q := (all_cons fo_X11_10 (all_cons fo_X11_19 (all_cons fo_X11_26 (all_cons fo_X11_30 (all_cons fo_X11_36 (all_cons fo_X11_40 (all_cons fo_X11_46 (all_cons fo_X11_50 (all_cons fo_X11_53 (all_cons fo_X11_57 (all_cons fo_X11_61 (all_cons fo_X11_66 (all_cons fo_X11_73 (all_cons fo_X11_80 (all_cons fo_X11_87 (all_cons fo_X11_94 (all_cons fo_X11_98 (all_cons fo_X11_107 (all_cons fo_X11_120 (all_cons fo_X11_128 (all_cons fo_X11_131 (all_cons fo_X11_134 (all_cons fo_X11_137 (all_cons fo_X11_140 (all_cons fo_X11_147 (all_cons fo_X11_150 (all_cons fo_X11_156 (all_cons fo_X11_159 (all_cons fo_X11_162 (all_cons fo_X11_188 (all_cons fo_X11_199 (all_cons fo_X11_204 (all_cons fo_X11_211 (all_cons fo_X11_214 (all_cons fo_X11_223 (all_cons fo_X11_226 (all_cons fo_X11_233 (all_cons fo_X11_240 (all_cons fo_X11_247 (all_cons fo_X11_250 (all_cons fo_X11_273 (all_cons fo_X11_274 (all_cons fo_X11_287 (all_cons fo_X11_298 (all_cons fo_X11_301 (all_cons fo_X11_307 all_nil))))))))))))))))))))))))))))))))))))))))))))))
def ktX11 : KT := (ftX11, [], [(357, 1103515245), (359, 12345), (361, 2147483648), (363, 65536)])
theorem ktX11_ok : KOK RX11 ktX11 := ⟨ftX11_ok, all_nil, (all_cons k_1174 (all_cons k_1175 (all_cons k_1176 (all_cons k_1180 all_nil))))⟩
theorem co_X11_103 : COK MT RX11 (103, 0, 80, 1, 9) := ⟨k_476, kn_X9, kc_X9_addBytes, ⟨by decide +kernel, by decide +kernel, by decide +kernel⟩, ⟨ki_X9_addBytes, kz_X9_addBytes, TX9, 9, rfl⟩⟩
theorem co_X11_110 : COK MT RX11 (110, 0, 17, 2, 1) := ⟨k_485, kn_X1, kc_X1_reads, ⟨by decide +kernel, by decide +kernel, by decide +kernel⟩, ⟨ki_X1_reads, kz_X1_reads, TX1, 3, rfl⟩⟩
theorem co_X11_114 : COK MT RX11 (114, 0, 9, 0, 0) := ⟨k_797, kn_X0, kc_X0_settleGifts, ⟨by decide +kernel, by decide +kernel, by decide +kernel⟩, ⟨ki_X0_settleGifts, kz_X0_settleGifts, TX0, 20, rfl⟩⟩
theorem co_X11_117 : COK MT RX11 (117, 0, 132, 0, 11) := ⟨k_842, kn_X11, kc_X11_beginAnew, ⟨by decide +kernel, by decide +kernel, by decide +kernel⟩, ⟨ki_X11_beginAnew, kz_X11_beginAnew, TX11, 17, rfl⟩⟩
theorem co_X11_123 : COK MT RX11 (123, 0, 101, 2, 10) := ⟨k_856, kn_X10, kc_X10_reads, ⟨by decide +kernel, by decide +kernel, by decide +kernel⟩, ⟨ki_X10_reads, kz_X10_reads, TX10, 4, rfl⟩⟩
theorem co_X11_124 : COK MT RX11 (124, 0, 129, 1, 11) := ⟨k_894, kn_X11, kc_X11_isPerson, ⟨by decide +kernel, by decide +kernel, by decide +kernel⟩, ⟨ki_X11_isPerson, kz_X11_isPerson, TX11, 17, rfl⟩⟩
theorem co_X11_143 : COK MT RX11 (143, 0, 71, 2, 8) := ⟨k_898, kn_X8, kc_X8_sits, ⟨by decide +kernel, by decide +kernel, by decide +kernel⟩, ⟨ki_X8_sits, kz_X8_sits, TX8, 6, rfl⟩⟩
theorem co_X11_153 : COK MT RX11 (153, 0, 130, 1, 11) := ⟨k_910, kn_X11, kc_X11_isDish, ⟨by decide +kernel, by decide +kernel, by decide +kernel⟩, ⟨ki_X11_isDish, kz_X11_isDish, TX11, 17, rfl⟩⟩
theorem co_X11_165 : COK MT RX11 (165, 0, 131, 2, 11) := ⟨k_918, kn_X11, kc_X11_canBeMeal, ⟨by decide +kernel, by decide +kernel, by decide +kernel⟩, ⟨ki_X11_canBeMeal, kz_X11_canBeMeal, TX11, 17, rfl⟩⟩
theorem co_X11_169 : COK MT RX11 (169, 0, 75, 5, 8) := ⟨k_931, kn_X8, kc_X8_gain, ⟨by decide +kernel, by decide +kernel, by decide +kernel⟩, ⟨ki_X8_gain, kz_X8_gain, TX8, 6, rfl⟩⟩
theorem co_X11_173 : COK MT RX11 (173, 0, 133, 0, 11) := ⟨k_947, kn_X11, kc_X11_remember, ⟨by decide +kernel, by decide +kernel, by decide +kernel⟩, ⟨ki_X11_remember, kz_X11_remember, TX11, 17, rfl⟩⟩
theorem co_X11_176 : COK MT RX11 (176, 0, 76, 4, 8) := ⟨k_963, kn_X8, kc_X8_takesMeal, ⟨by decide +kernel, by decide +kernel, by decide +kernel⟩, ⟨ki_X8_takesMeal, kz_X8_takesMeal, TX8, 6, rfl⟩⟩
theorem co_X11_180 : COK MT RX11 (180, 0, 79, 1, 8) := ⟨k_973, kn_X8, kc_X8_endsDay, ⟨by decide +kernel, by decide +kernel, by decide +kernel⟩, ⟨ki_X8_endsDay, kz_X8_endsDay, TX8, 6, rfl⟩⟩
theorem co_X11_184 : COK MT RX11 (184, 0, 77, 3, 8) := ⟨k_981, kn_X8, kc_X8_eatsAbroad, ⟨by decide +kernel, by decide +kernel, by decide +kernel⟩, ⟨ki_X8_eatsAbroad, kz_X8_eatsAbroad, TX8, 6, rfl⟩⟩
theorem co_X11_191 : COK MT RX11 (191, 0, 69, 1, 8) := ⟨k_951, kn_X8, kc_X8_copies, ⟨by decide +kernel, by decide +kernel, by decide +kernel⟩, ⟨ki_X8_copies, kz_X8_copies, TX8, 6, rfl⟩⟩
theorem co_X11_195 : COK MT RX11 (195, 0, 68, 1, 8) := ⟨k_846, kn_X8, kc_X8_begins, ⟨by decide +kernel, by decide +kernel, by decide +kernel⟩, ⟨ki_X8_begins, kz_X8_begins, TX8, 6, rfl⟩⟩
theorem co_X11_200 : COK MT RX11 (200, 0, 105, 3, 10) := ⟨k_1001, kn_X10, kc_X10_happens, ⟨by decide +kernel, by decide +kernel, by decide +kernel⟩, ⟨ki_X10_happens, kz_X10_happens, TX10, 4, rfl⟩⟩
theorem co_X11_207 : COK MT RX11 (207, 0, 60, 3, 7) := ⟨k_1013, kn_X7, kc_X7_finds, ⟨by decide +kernel, by decide +kernel, by decide +kernel⟩, ⟨ki_X7_finds, kz_X7_finds, TX7, 6, rfl⟩⟩
theorem co_X11_217 : COK MT RX11 (217, 0, 72, 1, 8) := ⟨k_1054, kn_X8, kc_X8_whoSits, ⟨by decide +kernel, by decide +kernel, by decide +kernel⟩, ⟨ki_X8_whoSits, kz_X8_whoSits, TX8, 6, rfl⟩⟩
theorem co_X11_220 : COK MT RX11 (220, 0, 55, 3, 6) := ⟨k_1058, kn_X6, kc_X6_parts, ⟨by decide +kernel, by decide +kernel, by decide +kernel⟩, ⟨ki_X6_parts, kz_X6_parts, TX6, 7, rfl⟩⟩
theorem co_X11_229 : COK MT RX11 (229, 0, 134, 2, 11) := ⟨k_1084, kn_X11, kc_X11_nextWell, ⟨by decide +kernel, by decide +kernel, by decide +kernel⟩, ⟨ki_X11_nextWell, kz_X11_nextWell, TX11, 17, rfl⟩⟩
theorem co_X11_236 : COK MT RX11 (236, 0, 29, 3, 2) := ⟨k_1097, kn_X2, kc_X2_weighs, ⟨by decide +kernel, by decide +kernel, by decide +kernel⟩, ⟨ki_X2_weighs, kz_X2_weighs, TX2, 5, rfl⟩⟩
theorem co_X11_243 : COK MT RX11 (243, 0, 32, 3, 2) := ⟨k_1118, kn_X2, kc_X2_whomToAsk, ⟨by decide +kernel, by decide +kernel, by decide +kernel⟩, ⟨ki_X2_whomToAsk, kz_X2_whomToAsk, TX2, 5, rfl⟩⟩
theorem co_X11_253 : COK MT RX11 (253, 0, 4, 0, 0) := ⟨k_1127, kn_X0, kc_X0_everybody, ⟨by decide +kernel, by decide +kernel, by decide +kernel⟩, ⟨ki_X0_everybody, kz_X0_everybody, TX0, 20, rfl⟩⟩
theorem co_X11_257 : COK MT RX11 (257, 1, 243, 1, 0) := ⟨k_1128, kn_J6, kc_J6_bitCount_0f7a4, ⟨by decide +kernel, by decide +kernel, by decide +kernel⟩, kt_J6_bitCount_0f7a4⟩
theorem co_X11_263 : COK MT RX11 (263, 0, 15, 2, 0) := ⟨k_1134, kn_X0, kc_X0_reached, ⟨by decide +kernel, by decide +kernel, by decide +kernel⟩, ⟨ki_X0_reached, kz_X0_reached, TX0, 20, rfl⟩⟩
theorem co_X11_266 : COK MT RX11 (266, 0, 16, 1, 0) := ⟨k_1142, kn_X0, kc_X0_votesOf, ⟨by decide +kernel, by decide +kernel, by decide +kernel⟩, ⟨ki_X0_votesOf, kz_X0_votesOf, TX0, 20, rfl⟩⟩
theorem co_X11_269 : COK MT RX11 (269, 0, 53, 2, 5) := ⟨k_1150, kn_X5, kc_X5_pairs, ⟨by decide +kernel, by decide +kernel, by decide +kernel⟩, ⟨ki_X5_pairs, kz_X5_pairs, TX5, 3, rfl⟩⟩
theorem co_X11_282 : COK MT RX11 (282, 0, 135, 2, 11) := ⟨k_1293, kn_X11, kc_X11_findRests, ⟨by decide +kernel, by decide +kernel, by decide +kernel⟩, ⟨ki_X11_findRests, kz_X11_findRests, TX11, 17, rfl⟩⟩
theorem co_X11_290 : COK MT RX11 (290, 1, 138, 1, 11) := ⟨k_1171, kn_X11, kc_X11_nextDraw, ⟨by decide +kernel, by decide +kernel, by decide +kernel⟩, kt_X11_nextDraw⟩
theorem co_X11_294 : COK MT RX11 (294, 1, 139, 2, 11) := ⟨k_1177, kn_X11, kc_X11_drawBelow, ⟨by decide +kernel, by decide +kernel, by decide +kernel⟩, kt_X11_drawBelow⟩
theorem co_X11_304 : COK MT RX11 (304, 0, 140, 1, 11) := ⟨k_1181, kn_X11, kc_X11_drawsMeal, ⟨by decide +kernel, by decide +kernel, by decide +kernel⟩, ⟨ki_X11_drawsMeal, kz_X11_drawsMeal, TX11, 17, rfl⟩⟩
theorem co_X11_311 : COK MT RX11 (311, 0, 52, 3, 4) := ⟨k_1189, kn_X4, kc_X4_goesBack, ⟨by decide +kernel, by decide +kernel, by decide +kernel⟩, ⟨ki_X4_goesBack, kz_X4_goesBack, TX4, 4, rfl⟩⟩
theorem co_X11_315 : COK MT RX11 (315, 0, 51, 3, 4) := ⟨k_1200, kn_X4, kc_X4_lays, ⟨by decide +kernel, by decide +kernel, by decide +kernel⟩, ⟨ki_X4_lays, kz_X4_lays, TX4, 4, rfl⟩⟩
theorem co_X11_318 : COK MT RX11 (318, 0, 14, 0, 0) := ⟨k_1208, kn_X0, kc_X0_cupsInAll, ⟨by decide +kernel, by decide +kernel, by decide +kernel⟩, ⟨ki_X0_cupsInAll, kz_X0_cupsInAll, TX0, 20, rfl⟩⟩
theorem co_X11_321 : COK MT RX11 (321, 1, 141, 2, 11) := ⟨k_1213, kn_X11, kc_X11_sum, ⟨by decide +kernel, by decide +kernel, by decide +kernel⟩, kt_X11_sum⟩
theorem co_X11_325 : COK MT RX11 (325, 0, 27, 0, 2) := ⟨k_1216, kn_X2, kc_X2_howManyTold, ⟨by decide +kernel, by decide +kernel, by decide +kernel⟩, ⟨ki_X2_howManyTold, kz_X2_howManyTold, TX2, 5, rfl⟩⟩
theorem co_X11_328 : COK MT RX11 (328, 0, 73, 3, 8) := ⟨k_922, kn_X8, kc_X8_canEat, ⟨by decide +kernel, by decide +kernel, by decide +kernel⟩, ⟨ki_X8_canEat, kz_X8_canEat, TX8, 6, rfl⟩⟩
theorem co_X11_332 : COK MT RX11 (332, 1, 255, 2, 0) := ⟨k_851, kn_J7, kc_J7_fill_53178, ⟨by decide +kernel, by decide +kernel, by decide +kernel⟩, kt_J7_fill_53178⟩
theorem co_X11_343 : COK MT RX11 (343, 0, 74, 2, 8) := ⟨k_1088, kn_X8, kc_X8_wouldBeIll, ⟨by decide +kernel, by decide +kernel, by decide +kernel⟩, ⟨ki_X8_wouldBeIll, kz_X8_wouldBeIll, TX8, 6, rfl⟩⟩
theorem co_X11_346 : COK MT RX11 (346, 1, 136, 4, 11) := ⟨k_1297, kn_X11, kc_X11_isBestFor, ⟨by decide +kernel, by decide +kernel, by decide +kernel⟩, kt_X11_isBestFor⟩
theorem co_X11_350 : COK MT RX11 (350, 1, 137, 4, 11) := ⟨k_1300, kn_X11, kc_X11_greedGain, ⟨by decide +kernel, by decide +kernel, by decide +kernel⟩, kt_X11_greedGain⟩
def ctX11 : CTT := [(103, 0, 80, 1, 9), (110, 0, 17, 2, 1), (114, 0, 9, 0, 0), (117, 0, 132, 0, 11), (123, 0, 101, 2, 10), (124, 0, 129, 1, 11), (143, 0, 71, 2, 8), (153, 0, 130, 1, 11), (165, 0, 131, 2, 11), (169, 0, 75, 5, 8), (173, 0, 133, 0, 11), (176, 0, 76, 4, 8), (180, 0, 79, 1, 8), (184, 0, 77, 3, 8), (191, 0, 69, 1, 8), (195, 0, 68, 1, 8), (200, 0, 105, 3, 10), (207, 0, 60, 3, 7), (217, 0, 72, 1, 8), (220, 0, 55, 3, 6), (229, 0, 134, 2, 11), (236, 0, 29, 3, 2), (243, 0, 32, 3, 2), (253, 0, 4, 0, 0), (257, 1, 243, 1, 0), (263, 0, 15, 2, 0), (266, 0, 16, 1, 0), (269, 0, 53, 2, 5), (282, 0, 135, 2, 11), (290, 1, 138, 1, 11), (294, 1, 139, 2, 11), (304, 0, 140, 1, 11), (311, 0, 52, 3, 4), (315, 0, 51, 3, 4), (318, 0, 14, 0, 0), (321, 1, 141, 2, 11), (325, 0, 27, 0, 2), (328, 0, 73, 3, 8), (332, 1, 255, 2, 0), (343, 0, 74, 2, 8), (346, 1, 136, 4, 11), (350, 1, 137, 4, 11)]
theorem ctX11_ok : ∀ q ∈ ctX11, COK MT RX11 q := (all_cons co_X11_103 (all_cons co_X11_110 (all_cons co_X11_114 (all_cons co_X11_117 (all_cons co_X11_123 (all_cons co_X11_124 (all_cons co_X11_143 (all_cons co_X11_153 (all_cons co_X11_165 (all_cons co_X11_169 (all_cons co_X11_173 (all_cons co_X11_176 (all_cons co_X11_180 (all_cons co_X11_184 (all_cons co_X11_191 (all_cons co_X11_195 (all_cons co_X11_200 (all_cons co_X11_207 (all_cons co_X11_217 (all_cons co_X11_220 (all_cons co_X11_229 (all_cons co_X11_236 (all_cons co_X11_243 (all_cons co_X11_253 (all_cons co_X11_257 (all_cons co_X11_263 (all_cons co_X11_266 (all_cons co_X11_269 (all_cons co_X11_282 (all_cons co_X11_290 (all_cons co_X11_294 (all_cons co_X11_304 (all_cons co_X11_311 (all_cons co_X11_315 (all_cons co_X11_318 (all_cons co_X11_321 (all_cons co_X11_325 (all_cons co_X11_328 (all_cons co_X11_332 (all_cons co_X11_343 (all_cons co_X11_346 (all_cons co_X11_350 all_nil))))))))))))))))))))))))))))))))))))))))))
def skX11 : SKT := ([(277, 0), (285, 1)], [], [], [(338, 1), (354, 0)])
theorem skX11_ok : SKOK RX11 skX11 := ⟨(all_cons ⟨_, rfl, rfl, rfl⟩ (all_cons ⟨_, rfl, rfl, rfl⟩ all_nil)), all_nil, all_nil, (all_cons ⟨k_962, k_564, kn_J9, k_565⟩ (all_cons ⟨k_1303, k_561, kn_J9, k_562⟩ all_nil))⟩
def atX11 : List Nat := []
theorem atX11_ok : ATok RX11 atX11 := all_nil
theorem fo_X12_7 : FOK RX12 (7, 12, 2, 5) := ⟨RX12, TX12, 67, tyX12, rfl, by decide, ibX12, tyX12_ok, nmX12, k_1317, (fun h => absurd h (by decide))⟩
theorem fo_X12_13 : FOK RX12 (13, 12, 10, 5) := ⟨RX12, TX12, 67, tyX12, rfl, by decide, ibX12, tyX12_ok, nmX12, k_1325, (fun h => absurd h (by decide))⟩
theorem fo_X12_16 : FOK RX12 (16, 12, 11, 5) := ⟨RX12, TX12, 67, tyX12, rfl, by decide, ibX12, tyX12_ok, nmX12, k_1326, (fun h => absurd h (by decide))⟩
theorem fo_X12_20 : FOK RX12 (20, 12, 12, 5) := ⟨RX12, TX12, 67, tyX12, rfl, by decide, ibX12, tyX12_ok, nmX12, k_1327, (fun h => absurd h (by decide))⟩
theorem fo_X12_23 : FOK RX12 (23, 12, 13, 5) := ⟨RX12, TX12, 67, tyX12, rfl, by decide, ibX12, tyX12_ok, nmX12, k_1328, (fun h => absurd h (by decide))⟩
theorem fo_X12_26 : FOK RX12 (26, 12, 14, 5) := ⟨RX12, TX12, 67, tyX12, rfl, by decide, ibX12, tyX12_ok, nmX12, k_1329, (fun h => absurd h (by decide))⟩
theorem fo_X12_29 : FOK RX12 (29, 12, 15, 5) := ⟨RX12, TX12, 67, tyX12, rfl, by decide, ibX12, tyX12_ok, nmX12, k_1330, (fun h => absurd h (by decide))⟩
theorem fo_X12_32 : FOK RX12 (32, 12, 16, 5) := ⟨RX12, TX12, 67, tyX12, rfl, by decide, ibX12, tyX12_ok, nmX12, k_1331, (fun h => absurd h (by decide))⟩
theorem fo_X12_35 : FOK RX12 (35, 12, 17, 5) := ⟨RX12, TX12, 67, tyX12, rfl, by decide, ibX12, tyX12_ok, nmX12, k_1332, (fun h => absurd h (by decide))⟩
theorem fo_X12_38 : FOK RX12 (38, 12, 18, 5) := ⟨RX12, TX12, 67, tyX12, rfl, by decide, ibX12, tyX12_ok, nmX12, k_1333, (fun h => absurd h (by decide))⟩
theorem fo_X12_41 : FOK RX12 (41, 12, 19, 5) := ⟨RX12, TX12, 67, tyX12, rfl, by decide, ibX12, tyX12_ok, nmX12, k_1334, (fun h => absurd h (by decide))⟩
theorem fo_X12_44 : FOK RX12 (44, 12, 20, 5) := ⟨RX12, TX12, 67, tyX12, rfl, by decide, ibX12, tyX12_ok, nmX12, k_1335, (fun h => absurd h (by decide))⟩
theorem fo_X12_47 : FOK RX12 (47, 12, 21, 5) := ⟨RX12, TX12, 67, tyX12, rfl, by decide, ibX12, tyX12_ok, nmX12, k_1336, (fun h => absurd h (by decide))⟩
theorem fo_X12_50 : FOK RX12 (50, 12, 22, 5) := ⟨RX12, TX12, 67, tyX12, rfl, by decide, ibX12, tyX12_ok, nmX12, k_1337, (fun h => absurd h (by decide))⟩
theorem fo_X12_53 : FOK RX12 (53, 12, 23, 5) := ⟨RX12, TX12, 67, tyX12, rfl, by decide, ibX12, tyX12_ok, nmX12, k_1338, (fun h => absurd h (by decide))⟩
theorem fo_X12_56 : FOK RX12 (56, 12, 24, 5) := ⟨RX12, TX12, 67, tyX12, rfl, by decide, ibX12, tyX12_ok, nmX12, k_1339, (fun h => absurd h (by decide))⟩
theorem fo_X12_59 : FOK RX12 (59, 12, 25, 5) := ⟨RX12, TX12, 67, tyX12, rfl, by decide, ibX12, tyX12_ok, nmX12, k_1340, (fun h => absurd h (by decide))⟩
theorem fo_X12_62 : FOK RX12 (62, 12, 28, 5) := ⟨RX12, TX12, 67, tyX12, rfl, by decide, ibX12, tyX12_ok, nmX12, k_1343, (fun h => absurd h (by decide))⟩
theorem fo_X12_65 : FOK RX12 (65, 12, 29, 5) := ⟨RX12, TX12, 67, tyX12, rfl, by decide, ibX12, tyX12_ok, nmX12, k_1344, (fun h => absurd h (by decide))⟩
theorem fo_X12_69 : FOK RX12 (69, 12, 30, 5) := ⟨RX12, TX12, 67, tyX12, rfl, by decide, ibX12, tyX12_ok, nmX12, k_1345, (fun h => absurd h (by decide))⟩
theorem fo_X12_72 : FOK RX12 (72, 12, 31, 5) := ⟨RX12, TX12, 67, tyX12, rfl, by decide, ibX12, tyX12_ok, nmX12, k_1346, (fun h => absurd h (by decide))⟩
theorem fo_X12_75 : FOK RX12 (75, 12, 32, 5) := ⟨RX12, TX12, 67, tyX12, rfl, by decide, ibX12, tyX12_ok, nmX12, k_1347, (fun h => absurd h (by decide))⟩
theorem fo_X12_78 : FOK RX12 (78, 12, 33, 5) := ⟨RX12, TX12, 67, tyX12, rfl, by decide, ibX12, tyX12_ok, nmX12, k_1348, (fun h => absurd h (by decide))⟩
theorem fo_X12_81 : FOK RX12 (81, 12, 34, 5) := ⟨RX12, TX12, 67, tyX12, rfl, by decide, ibX12, tyX12_ok, nmX12, k_1349, (fun h => absurd h (by decide))⟩
theorem fo_X12_84 : FOK RX12 (84, 12, 35, 5) := ⟨RX12, TX12, 67, tyX12, rfl, by decide, ibX12, tyX12_ok, nmX12, k_1350, (fun h => absurd h (by decide))⟩
theorem fo_X12_87 : FOK RX12 (87, 12, 36, 5) := ⟨RX12, TX12, 67, tyX12, rfl, by decide, ibX12, tyX12_ok, nmX12, k_1351, (fun h => absurd h (by decide))⟩
theorem fo_X12_90 : FOK RX12 (90, 12, 37, 5) := ⟨RX12, TX12, 67, tyX12, rfl, by decide, ibX12, tyX12_ok, nmX12, k_1352, (fun h => absurd h (by decide))⟩
theorem fo_X12_93 : FOK RX12 (93, 12, 38, 5) := ⟨RX12, TX12, 67, tyX12, rfl, by decide, ibX12, tyX12_ok, nmX12, k_1353, (fun h => absurd h (by decide))⟩
theorem fo_X12_96 : FOK RX12 (96, 12, 39, 5) := ⟨RX12, TX12, 67, tyX12, rfl, by decide, ibX12, tyX12_ok, nmX12, k_1354, (fun h => absurd h (by decide))⟩
theorem fo_X12_99 : FOK RX12 (99, 12, 42, 5) := ⟨RX12, TX12, 67, tyX12, rfl, by decide, ibX12, tyX12_ok, nmX12, k_1357, (fun h => absurd h (by decide))⟩
theorem fo_X12_102 : FOK RX12 (102, 12, 43, 5) := ⟨RX12, TX12, 67, tyX12, rfl, by decide, ibX12, tyX12_ok, nmX12, k_1358, (fun h => absurd h (by decide))⟩
theorem fo_X12_105 : FOK RX12 (105, 12, 44, 5) := ⟨RX12, TX12, 67, tyX12, rfl, by decide, ibX12, tyX12_ok, nmX12, k_1359, (fun h => absurd h (by decide))⟩
theorem fo_X12_108 : FOK RX12 (108, 12, 45, 5) := ⟨RX12, TX12, 67, tyX12, rfl, by decide, ibX12, tyX12_ok, nmX12, k_1360, (fun h => absurd h (by decide))⟩
theorem fo_X12_111 : FOK RX12 (111, 12, 46, 5) := ⟨RX12, TX12, 67, tyX12, rfl, by decide, ibX12, tyX12_ok, nmX12, k_1361, (fun h => absurd h (by decide))⟩
theorem fo_X12_114 : FOK RX12 (114, 12, 47, 5) := ⟨RX12, TX12, 67, tyX12, rfl, by decide, ibX12, tyX12_ok, nmX12, k_1362, (fun h => absurd h (by decide))⟩
theorem fo_X12_117 : FOK RX12 (117, 12, 48, 5) := ⟨RX12, TX12, 67, tyX12, rfl, by decide, ibX12, tyX12_ok, nmX12, k_1363, (fun h => absurd h (by decide))⟩
theorem fo_X12_120 : FOK RX12 (120, 12, 49, 5) := ⟨RX12, TX12, 67, tyX12, rfl, by decide, ibX12, tyX12_ok, nmX12, k_1364, (fun h => absurd h (by decide))⟩
theorem fo_X12_123 : FOK RX12 (123, 12, 50, 5) := ⟨RX12, TX12, 67, tyX12, rfl, by decide, ibX12, tyX12_ok, nmX12, k_1365, (fun h => absurd h (by decide))⟩
theorem fo_X12_126 : FOK RX12 (126, 12, 51, 5) := ⟨RX12, TX12, 67, tyX12, rfl, by decide, ibX12, tyX12_ok, nmX12, k_1366, (fun h => absurd h (by decide))⟩
theorem fo_X12_129 : FOK RX12 (129, 12, 52, 5) := ⟨RX12, TX12, 67, tyX12, rfl, by decide, ibX12, tyX12_ok, nmX12, k_1367, (fun h => absurd h (by decide))⟩
theorem fo_X12_132 : FOK RX12 (132, 12, 53, 5) := ⟨RX12, TX12, 67, tyX12, rfl, by decide, ibX12, tyX12_ok, nmX12, k_1368, (fun h => absurd h (by decide))⟩
theorem fo_X12_135 : FOK RX12 (135, 12, 58, 5) := ⟨RX12, TX12, 67, tyX12, rfl, by decide, ibX12, tyX12_ok, nmX12, k_1373, (fun h => absurd h (by decide))⟩
theorem fo_X12_138 : FOK RX12 (138, 12, 59, 5) := ⟨RX12, TX12, 67, tyX12, rfl, by decide, ibX12, tyX12_ok, nmX12, k_1374, (fun h => absurd h (by decide))⟩
theorem fo_X12_141 : FOK RX12 (141, 12, 60, 5) := ⟨RX12, TX12, 67, tyX12, rfl, by decide, ibX12, tyX12_ok, nmX12, k_1375, (fun h => absurd h (by decide))⟩
theorem fo_X12_144 : FOK RX12 (144, 12, 61, 5) := ⟨RX12, TX12, 67, tyX12, rfl, by decide, ibX12, tyX12_ok, nmX12, k_1376, (fun h => absurd h (by decide))⟩
theorem fo_X12_147 : FOK RX12 (147, 12, 63, 5) := ⟨RX12, TX12, 67, tyX12, rfl, by decide, ibX12, tyX12_ok, nmX12, k_1378, (fun h => absurd h (by decide))⟩
theorem fo_X12_150 : FOK RX12 (150, 12, 64, 5) := ⟨RX12, TX12, 67, tyX12, rfl, by decide, ibX12, tyX12_ok, nmX12, k_1379, (fun h => absurd h (by decide))⟩
theorem fo_X12_156 : FOK RX12 (156, 12, 0, 0) := ⟨RX12, TX12, 67, tyX12, rfl, by decide, ibX12, tyX12_ok, nmX12, k_1315, (fun _ => ⟨rfl, rfl⟩)⟩
theorem fo_X12_162 : FOK RX12 (162, 12, 1, 0) := ⟨RX12, TX12, 67, tyX12, rfl, by decide, ibX12, tyX12_ok, nmX12, k_1316, (fun _ => ⟨rfl, rfl⟩)⟩
theorem fo_X12_165 : FOK RX12 (165, 12, 3, 0) := ⟨RX12, TX12, 67, tyX12, rfl, by decide, ibX12, tyX12_ok, nmX12, k_1318, (fun _ => ⟨rfl, rfl⟩)⟩
theorem fo_X12_168 : FOK RX12 (168, 12, 4, 0) := ⟨RX12, TX12, 67, tyX12, rfl, by decide, ibX12, tyX12_ok, nmX12, k_1319, (fun _ => ⟨rfl, rfl⟩)⟩
theorem fo_X12_171 : FOK RX12 (171, 12, 5, 0) := ⟨RX12, TX12, 67, tyX12, rfl, by decide, ibX12, tyX12_ok, nmX12, k_1320, (fun _ => ⟨rfl, rfl⟩)⟩
theorem fo_X12_174 : FOK RX12 (174, 12, 7, 3) := ⟨RX12, TX12, 67, tyX12, rfl, by decide, ibX12, tyX12_ok, nmX12, k_1322, (fun _ => ⟨rfl, rfl⟩)⟩
theorem fo_X12_178 : FOK RX12 (178, 12, 8, 0) := ⟨RX12, TX12, 67, tyX12, rfl, by decide, ibX12, tyX12_ok, nmX12, k_1323, (fun _ => ⟨rfl, rfl⟩)⟩
theorem fo_X12_181 : FOK RX12 (181, 12, 6, 0) := ⟨RX12, TX12, 67, tyX12, rfl, by decide, ibX12, tyX12_ok, nmX12, k_1321, (fun _ => ⟨rfl, rfl⟩)⟩
theorem fo_X12_192 : FOK RX12 (192, 12, 9, 0) := ⟨RX12, TX12, 67, tyX12, rfl, by decide, ibX12, tyX12_ok, nmX12, k_1324, (fun _ => ⟨rfl, rfl⟩)⟩
theorem fo_X12_195 : FOK RX12 (195, 12, 26, 0) := ⟨RX12, TX12, 67, tyX12, rfl, by decide, ibX12, tyX12_ok, nmX12, k_1341, (fun _ => ⟨rfl, rfl⟩)⟩
theorem fo_X12_297 : FOK RX12 (297, 12, 40, 0) := ⟨RX12, TX12, 67, tyX12, rfl, by decide, ibX12, tyX12_ok, nmX12, k_1355, (fun _ => ⟨rfl, rfl⟩)⟩
theorem fo_X12_317 : FOK RX12 (317, 12, 41, 3) := ⟨RX12, TX12, 67, tyX12, rfl, by decide, ibX12, tyX12_ok, nmX12, k_1356, (fun _ => ⟨rfl, rfl⟩)⟩
theorem fo_X12_319 : FOK RX12 (319, 12, 27, 0) := ⟨RX12, TX12, 67, tyX12, rfl, by decide, ibX12, tyX12_ok, nmX12, k_1342, (fun _ => ⟨rfl, rfl⟩)⟩
theorem fo_X12_385 : FOK RX12 (385, 12, 54, 0) := ⟨RX12, TX12, 67, tyX12, rfl, by decide, ibX12, tyX12_ok, nmX12, k_1369, (fun _ => ⟨rfl, rfl⟩)⟩
theorem fo_X12_424 : FOK RX12 (424, 12, 55, 1) := ⟨RX12, TX12, 67, tyX12, rfl, by decide, ibX12, tyX12_ok, nmX12, k_1370, (fun _ => ⟨rfl, rfl⟩)⟩
theorem fo_X12_467 : FOK RX12 (467, 12, 56, 1) := ⟨RX12, TX12, 67, tyX12, rfl, by decide, ibX12, tyX12_ok, nmX12, k_1371, (fun _ => ⟨rfl, rfl⟩)⟩
theorem fo_X12_476 : FOK RX12 (476, 12, 57, 0) := ⟨RX12, TX12, 67, tyX12, rfl, by decide, ibX12, tyX12_ok, nmX12, k_1372, (fun _ => ⟨rfl, rfl⟩)⟩
theorem fo_X12_479 : FOK RX12 (479, 12, 62, 0) := ⟨RX12, TX12, 67, tyX12, rfl, by decide, ibX12, tyX12_ok, nmX12, k_1377, (fun _ => ⟨rfl, rfl⟩)⟩
theorem fo_X12_509 : FOK RX12 (509, 12, 65, 0) := ⟨RX12, TX12, 67, tyX12, rfl, by decide, ibX12, tyX12_ok, nmX12, k_1380, (fun _ => ⟨rfl, rfl⟩)⟩
theorem fo_X12_524 : FOK RX12 (524, 12, 66, 3) := ⟨RX12, TX12, 67, tyX12, rfl, by decide, ibX12, tyX12_ok, nmX12, k_1381, (fun _ => ⟨rfl, rfl⟩)⟩
def ftX12 : List (Nat × Nat × Nat × Nat) := [(7, 12, 2, 5), (13, 12, 10, 5), (16, 12, 11, 5), (20, 12, 12, 5), (23, 12, 13, 5), (26, 12, 14, 5), (29, 12, 15, 5), (32, 12, 16, 5), (35, 12, 17, 5), (38, 12, 18, 5), (41, 12, 19, 5), (44, 12, 20, 5), (47, 12, 21, 5), (50, 12, 22, 5), (53, 12, 23, 5), (56, 12, 24, 5), (59, 12, 25, 5), (62, 12, 28, 5), (65, 12, 29, 5), (69, 12, 30, 5), (72, 12, 31, 5), (75, 12, 32, 5), (78, 12, 33, 5), (81, 12, 34, 5), (84, 12, 35, 5), (87, 12, 36, 5), (90, 12, 37, 5), (93, 12, 38, 5), (96, 12, 39, 5), (99, 12, 42, 5), (102, 12, 43, 5), (105, 12, 44, 5), (108, 12, 45, 5), (111, 12, 46, 5), (114, 12, 47, 5), (117, 12, 48, 5), (120, 12, 49, 5), (123, 12, 50, 5), (126, 12, 51, 5), (129, 12, 52, 5), (132, 12, 53, 5), (135, 12, 58, 5), (138, 12, 59, 5), (141, 12, 60, 5), (144, 12, 61, 5), (147, 12, 63, 5), (150, 12, 64, 5), (156, 12, 0, 0), (162, 12, 1, 0), (165, 12, 3, 0), (168, 12, 4, 0), (171, 12, 5, 0), (174, 12, 7, 3), (178, 12, 8, 0), (181, 12, 6, 0), (192, 12, 9, 0), (195, 12, 26, 0), (297, 12, 40, 0), (317, 12, 41, 3), (319, 12, 27, 0), (385, 12, 54, 0), (424, 12, 55, 1), (467, 12, 56, 1), (476, 12, 57, 0), (479, 12, 62, 0), (509, 12, 65, 0), (524, 12, 66, 3)]
theorem ftX12_ok : ∀ q ∈ ftX12, FOK RX12 q := (all_cons fo_X12_7 (all_cons fo_X12_13 (all_cons fo_X12_16 (all_cons fo_X12_20 (all_cons fo_X12_23 (all_cons fo_X12_26 (all_cons fo_X12_29 (all_cons fo_X12_32 (all_cons fo_X12_35 (all_cons fo_X12_38 (all_cons fo_X12_41 (all_cons fo_X12_44 (all_cons fo_X12_47 (all_cons fo_X12_50 (all_cons fo_X12_53 (all_cons fo_X12_56 (all_cons fo_X12_59 (all_cons fo_X12_62 (all_cons fo_X12_65 (all_cons fo_X12_69 (all_cons fo_X12_72 (all_cons fo_X12_75 (all_cons fo_X12_78 (all_cons fo_X12_81 (all_cons fo_X12_84 (all_cons fo_X12_87 (all_cons fo_X12_90 (all_cons fo_X12_93 (all_cons fo_X12_96 (all_cons fo_X12_99 (all_cons fo_X12_102 (all_cons fo_X12_105 (all_cons fo_X12_108 (all_cons fo_X12_111 (all_cons fo_X12_114 (all_cons fo_X12_117 (all_cons fo_X12_120 (all_cons fo_X12_123 (all_cons fo_X12_126 (all_cons fo_X12_129 (all_cons fo_X12_132 (all_cons fo_X12_135 (all_cons fo_X12_138 (all_cons fo_X12_141 (all_cons fo_X12_144 (all_cons fo_X12_147 (all_cons fo_X12_150 (all_cons fo_X12_156 (all_cons fo_X12_162 (all_cons fo_X12_165 (all_cons fo_X12_168 (all_cons fo_X12_171 (all_cons fo_X12_174 (all_cons fo_X12_178 (all_cons fo_X12_181 (all_cons fo_X12_192 (all_cons fo_X12_195 (all_cons fo_X12_297 (all_cons fo_X12_317 (all_cons fo_X12_319 (all_cons fo_X12_385 (all_cons fo_X12_424 (all_cons fo_X12_467 (all_cons fo_X12_476 (all_cons fo_X12_479 (all_cons fo_X12_509 (all_cons fo_X12_524 all_nil)))))))))))))))))))))))))))))))))))))))))))))))))))))))))))))))))))
def ktX12 : KT := (ftX12, [], [(160, 255), (188, 27), (190, 96), (198, 142108017258), (200, 11103), (202, 10197082), (204, 279318886), (206, 11570), (212, 10631), (232, 1111), (234, 423), (245, 232608281), (247, 126232693), (249, 10662899), (251, 12001681), (253, 85814), (255, 1254763), (257, 375050), (259, 70517), (261, 2770), (263, 380630), (265, 131638), (267, 555), (269, 10502465), (271, 358472), (273, 10256063), (275, 3692), (277, 15777049), (279, 286880), (281, 383153), (283, 119360), (285, 8740238), (287, 110110480), (289, 6688714), (291, 11263), (527, 1103515245), (529, 12345), (531, 2147483648), (533, 65536)])
theorem ktX12_ok : KOK RX12 ktX12 := ⟨ftX12_ok, all_nil, (all_cons k_1525 (all_cons k_1546 (all_cons k_1547 (all_cons k_1662 (all_cons k_1663 (all_cons k_1664 (all_cons k_1665 (all_cons k_1666 (all_cons k_1592 (all_cons k_1593 (all_cons k_1594 (all_cons k_1548 (all_cons k_1569 (all_cons k_1570 (all_cons k_1571 (all_cons k_1572 (all_cons k_1573 (all_cons k_1574 (all_cons k_1575 (all_cons k_1576 (all_cons k_1577 (all_cons k_1578 (all_cons k_1579 (all_cons k_1580 (all_cons k_1581 (all_cons k_1582 (all_cons k_1583 (all_cons k_1584 (all_cons k_1585 (all_cons k_1586 (all_cons k_1587 (all_cons k_1588 (all_cons k_1589 (all_cons k_1590 (all_cons k_1591 (all_cons k_1921 (all_cons k_1922 (all_cons k_1923 (all_cons k_1924 all_nil)))))))))))))))))))))))))))))))))))))))⟩
theorem co_X12_153 : COK MT RX12 (153, 0, 187, 0, 12) := ⟨k_1311, kn_X12, kc_X12_fresh, ⟨by decide +kernel, by decide +kernel, by decide +kernel⟩, ⟨ki_X12_fresh, kz_X12_fresh, TX12, 67, rfl⟩⟩
theorem co_X12_184 : COK MT RX12 (184, 0, 148, 1, 12) := ⟨k_1542, kn_X12, kc_X12_signAt, ⟨by decide +kernel, by decide +kernel, by decide +kernel⟩, ⟨ki_X12_signAt, kz_X12_signAt, TX12, 67, rfl⟩⟩
theorem co_X12_208 : COK MT RX12 (208, 0, 154, 0, 12) := ⟨k_1658, kn_X12, kc_X12_fact, ⟨by decide +kernel, by decide +kernel, by decide +kernel⟩, ⟨ki_X12_fact, kz_X12_fact, TX12, 67, rfl⟩⟩
theorem co_X12_214 : COK MT RX12 (214, 0, 150, 1, 12) := ⟨k_1549, kn_X12, kc_X12_isWord, ⟨by decide +kernel, by decide +kernel, by decide +kernel⟩, ⟨ki_X12_isWord, kz_X12_isWord, TX12, 67, rfl⟩⟩
theorem co_X12_218 : COK MT RX12 (218, 0, 151, 1, 12) := ⟨k_1622, kn_X12, kc_X12_isSign, ⟨by decide +kernel, by decide +kernel, by decide +kernel⟩, ⟨ki_X12_isSign, kz_X12_isSign, TX12, 67, rfl⟩⟩
theorem co_X12_222 : COK MT RX12 (222, 0, 152, 1, 12) := ⟨k_1557, kn_X12, kc_X12_fails, ⟨by decide +kernel, by decide +kernel, by decide +kernel⟩, ⟨ki_X12_fails, kz_X12_fails, TX12, 67, rfl⟩⟩
theorem co_X12_225 : COK MT RX12 (225, 0, 153, 1, 12) := ⟨k_1667, kn_X12, kc_X12_puts, ⟨by decide +kernel, by decide +kernel, by decide +kernel⟩, ⟨ki_X12_puts, kz_X12_puts, TX12, 67, rfl⟩⟩
theorem co_X12_229 : COK MT RX12 (229, 0, 149, 0, 12) := ⟨k_1538, kn_X12, kc_X12_nextToken, ⟨by decide +kernel, by decide +kernel, by decide +kernel⟩, ⟨ki_X12_nextToken, kz_X12_nextToken, TX12, 67, rfl⟩⟩
theorem co_X12_236 : COK MT RX12 (236, 0, 157, 1, 12) := ⟨k_1760, kn_X12, kc_X12_sums, ⟨by decide +kernel, by decide +kernel, by decide +kernel⟩, ⟨ki_X12_sums, kz_X12_sums, TX12, 67, rfl⟩⟩
theorem co_X12_239 : COK MT RX12 (239, 0, 156, 1, 12) := ⟨k_1756, kn_X12, kc_X12_opens, ⟨by decide +kernel, by decide +kernel, by decide +kernel⟩, ⟨ki_X12_opens, kz_X12_opens, TX12, 67, rfl⟩⟩
theorem co_X12_242 : COK MT RX12 (242, 0, 158, 1, 12) := ⟨k_1764, kn_X12, kc_X12_tests, ⟨by decide +kernel, by decide +kernel, by decide +kernel⟩, ⟨ki_X12_tests, kz_X12_tests, TX12, 67, rfl⟩⟩
theorem co_X12_293 : COK MT RX12 (293, 1, 143, 3, 12) := ⟨k_1615, kn_X12, kc_X12_within, ⟨by decide +kernel, by decide +kernel, by decide +kernel⟩, kt_X12_within⟩
theorem co_X12_300 : COK MT RX12 (300, 0, 164, 1, 12) := ⟨k_1607, kn_X12, kc_X12_needsWord, ⟨by decide +kernel, by decide +kernel, by decide +kernel⟩, ⟨ki_X12_needsWord, kz_X12_needsWord, TX12, 67, rfl⟩⟩
theorem co_X12_303 : COK MT RX12 (303, 0, 163, 2, 12) := ⟨k_1611, kn_X12, kc_X12_needsNumber, ⟨by decide +kernel, by decide +kernel, by decide +kernel⟩, ⟨ki_X12_needsNumber, kz_X12_needsNumber, TX12, 67, rfl⟩⟩
theorem co_X12_307 : COK MT RX12 (307, 0, 160, 0, 12) := ⟨k_1565, kn_X12, kc_X12_isKept, ⟨by decide +kernel, by decide +kernel, by decide +kernel⟩, ⟨ki_X12_isKept, kz_X12_isKept, TX12, 67, rfl⟩⟩
theorem co_X12_311 : COK MT RX12 (311, 0, 161, 1, 12) := ⟨k_1595, kn_X12, kc_X12_personNamed, ⟨by decide +kernel, by decide +kernel, by decide +kernel⟩, ⟨ki_X12_personNamed, kz_X12_personNamed, TX12, 67, rfl⟩⟩
theorem co_X12_314 : COK MT RX12 (314, 0, 162, 1, 12) := ⟨k_1599, kn_X12, kc_X12_dishNamed, ⟨by decide +kernel, by decide +kernel, by decide +kernel⟩, ⟨ki_X12_dishNamed, kz_X12_dishNamed, TX12, 67, rfl⟩⟩
theorem co_X12_322 : COK MT RX12 (322, 0, 167, 0, 12) := ⟨k_1561, kn_X12, kc_X12_needsNew, ⟨by decide +kernel, by decide +kernel, by decide +kernel⟩, ⟨ki_X12_needsNew, kz_X12_needsNew, TX12, 67, rfl⟩⟩
theorem co_X12_325 : COK MT RX12 (325, 0, 165, 3, 12) := ⟨k_1603, kn_X12, kc_X12_needsBoth, ⟨by decide +kernel, by decide +kernel, by decide +kernel⟩, ⟨ki_X12_needsBoth, kz_X12_needsBoth, TX12, 67, rfl⟩⟩
theorem co_X12_329 : COK MT RX12 (329, 0, 166, 0, 12) := ⟨k_1618, kn_X12, kc_X12_closes, ⟨by decide +kernel, by decide +kernel, by decide +kernel⟩, ⟨ki_X12_closes, kz_X12_closes, TX12, 67, rfl⟩⟩
theorem co_X12_332 : COK MT RX12 (332, 0, 168, 1, 12) := ⟨k_1634, kn_X12, kc_X12_needsPerson, ⟨by decide +kernel, by decide +kernel, by decide +kernel⟩, ⟨ki_X12_needsPerson, kz_X12_needsPerson, TX12, 67, rfl⟩⟩
theorem co_X12_335 : COK MT RX12 (335, 0, 170, 1, 12) := ⟨k_1646, kn_X12, kc_X12_isTwice, ⟨by decide +kernel, by decide +kernel, by decide +kernel⟩, ⟨ki_X12_isTwice, kz_X12_isTwice, TX12, 67, rfl⟩⟩
theorem co_X12_338 : COK MT RX12 (338, 0, 155, 0, 12) := ⟨k_1654, kn_X12, kc_X12_reads, ⟨by decide +kernel, by decide +kernel, by decide +kernel⟩, ⟨ki_X12_reads, kz_X12_reads, TX12, 67, rfl⟩⟩
theorem co_X12_341 : COK MT RX12 (341, 0, 177, 0, 12) := ⟨k_1534, kn_X12, kc_X12_starts, ⟨by decide +kernel, by decide +kernel, by decide +kernel⟩, ⟨ki_X12_starts, kz_X12_starts, TX12, 67, rfl⟩⟩
theorem co_X12_344 : COK MT RX12 (344, 0, 171, 0, 12) := ⟨k_1553, kn_X12, kc_X12_readsPerson, ⟨by decide +kernel, by decide +kernel, by decide +kernel⟩, ⟨ki_X12_readsPerson, kz_X12_readsPerson, TX12, 67, rfl⟩⟩
theorem co_X12_347 : COK MT RX12 (347, 0, 172, 0, 12) := ⟨k_1626, kn_X12, kc_X12_readsDish, ⟨by decide +kernel, by decide +kernel, by decide +kernel⟩, ⟨ki_X12_readsDish, kz_X12_readsDish, TX12, 67, rfl⟩⟩
theorem co_X12_350 : COK MT RX12 (350, 0, 173, 0, 12) := ⟨k_1630, kn_X12, kc_X12_readsCup, ⟨by decide +kernel, by decide +kernel, by decide +kernel⟩, ⟨ki_X12_readsCup, kz_X12_readsCup, TX12, 67, rfl⟩⟩
theorem co_X12_353 : COK MT RX12 (353, 0, 174, 0, 12) := ⟨k_1638, kn_X12, kc_X12_readsSick, ⟨by decide +kernel, by decide +kernel, by decide +kernel⟩, ⟨ki_X12_readsSick, kz_X12_readsSick, TX12, 67, rfl⟩⟩
theorem co_X12_356 : COK MT RX12 (356, 0, 175, 2, 12) := ⟨k_1642, kn_X12, kc_X12_readsOne, ⟨by decide +kernel, by decide +kernel, by decide +kernel⟩, ⟨ki_X12_readsOne, kz_X12_readsOne, TX12, 67, rfl⟩⟩
theorem co_X12_359 : COK MT RX12 (359, 0, 176, 0, 12) := ⟨k_1650, kn_X12, kc_X12_readsShare, ⟨by decide +kernel, by decide +kernel, by decide +kernel⟩, ⟨ki_X12_readsShare, kz_X12_readsShare, TX12, 67, rfl⟩⟩
theorem co_X12_362 : COK MT RX12 (362, 1, 179, 2, 12) := ⟨k_1675, kn_X12, kc_X12_moves, ⟨by decide +kernel, by decide +kernel, by decide +kernel⟩, kt_X12_moves⟩
theorem co_X12_366 : COK MT RX12 (366, 1, 180, 2, 12) := ⟨k_1678, kn_X12, kc_X12_movesNames, ⟨by decide +kernel, by decide +kernel, by decide +kernel⟩, kt_X12_movesNames⟩
theorem co_X12_370 : COK MT RX12 (370, 0, 169, 1, 12) := ⟨k_1697, kn_X12, kc_X12_needsDish, ⟨by decide +kernel, by decide +kernel, by decide +kernel⟩, ⟨ki_X12_needsDish, kz_X12_needsDish, TX12, 67, rfl⟩⟩
theorem co_X12_373 : COK MT RX12 (373, 0, 183, 1, 12) := ⟨k_1693, kn_X12, kc_X12_readsMeal, ⟨by decide +kernel, by decide +kernel, by decide +kernel⟩, ⟨ki_X12_readsMeal, kz_X12_readsMeal, TX12, 67, rfl⟩⟩
theorem co_X12_376 : COK MT RX12 (376, 0, 178, 0, 12) := ⟨k_1530, kn_X12, kc_X12_readsAll, ⟨by decide +kernel, by decide +kernel, by decide +kernel⟩, ⟨ki_X12_readsAll, kz_X12_readsAll, TX12, 67, rfl⟩⟩
theorem co_X12_379 : COK MT RX12 (379, 0, 181, 0, 12) := ⟨k_1671, kn_X12, kc_X12_lays, ⟨by decide +kernel, by decide +kernel, by decide +kernel⟩, ⟨ki_X12_lays, kz_X12_lays, TX12, 67, rfl⟩⟩
theorem co_X12_382 : COK MT RX12 (382, 0, 188, 0, 12) := ⟨k_1681, kn_X12, kc_X12_forgets, ⟨by decide +kernel, by decide +kernel, by decide +kernel⟩, ⟨ki_X12_forgets, kz_X12_forgets, TX12, 67, rfl⟩⟩
theorem co_X12_388 : COK MT RX12 (388, 0, 184, 0, 12) := ⟨k_1689, kn_X12, kc_X12_readsLine, ⟨by decide +kernel, by decide +kernel, by decide +kernel⟩, ⟨ki_X12_readsLine, kz_X12_readsLine, TX12, 67, rfl⟩⟩
theorem co_X12_391 : COK MT RX12 (391, 0, 185, 2, 12) := ⟨k_1701, kn_X12, kc_X12_laysLines, ⟨by decide +kernel, by decide +kernel, by decide +kernel⟩, ⟨ki_X12_laysLines, kz_X12_laysLines, TX12, 67, rfl⟩⟩
theorem co_X12_395 : COK MT RX12 (395, 0, 193, 1, 12) := ⟨k_1713, kn_X12, kc_X12_isSick, ⟨by decide +kernel, by decide +kernel, by decide +kernel⟩, ⟨ki_X12_isSick, kz_X12_isSick, TX12, 67, rfl⟩⟩
theorem co_X12_398 : COK MT RX12 (398, 0, 195, 2, 12) := ⟨k_1733, kn_X12, kc_X12_costOf, ⟨by decide +kernel, by decide +kernel, by decide +kernel⟩, ⟨ki_X12_costOf, kz_X12_costOf, TX12, 67, rfl⟩⟩
theorem co_X12_402 : COK MT RX12 (402, 1, 145, 2, 12) := ⟨k_1745, kn_X12, kc_X12_away, ⟨by decide +kernel, by decide +kernel, by decide +kernel⟩, kt_X12_away⟩
theorem co_X12_405 : COK MT RX12 (405, 0, 159, 1, 12) := ⟨k_1752, kn_X12, kc_X12_worked, ⟨by decide +kernel, by decide +kernel, by decide +kernel⟩, ⟨ki_X12_worked, kz_X12_worked, TX12, 67, rfl⟩⟩
theorem co_X12_408 : COK MT RX12 (408, 1, 144, 3, 12) := ⟨k_1768, kn_X12, kc_X12_between, ⟨by decide +kernel, by decide +kernel, by decide +kernel⟩, kt_X12_between⟩
theorem co_X12_412 : COK MT RX12 (412, 0, 198, 5, 12) := ⟨k_1748, kn_X12, kc_X12_lawOf, ⟨by decide +kernel, by decide +kernel, by decide +kernel⟩, ⟨ki_X12_lawOf, kz_X12_lawOf, TX12, 67, rfl⟩⟩
theorem co_X12_428 : COK MT RX12 (428, 0, 197, 1, 12) := ⟨k_1737, kn_X12, kc_X12_wouldBeIll, ⟨by decide +kernel, by decide +kernel, by decide +kernel⟩, ⟨ki_X12_wouldBeIll, kz_X12_wouldBeIll, TX12, 67, rfl⟩⟩
theorem co_X12_431 : COK MT RX12 (431, 0, 194, 0, 12) := ⟨k_1787, kn_X12, kc_X12_sitting, ⟨by decide +kernel, by decide +kernel, by decide +kernel⟩, ⟨ki_X12_sitting, kz_X12_sitting, TX12, 67, rfl⟩⟩
theorem co_X12_434 : COK MT RX12 (434, 0, 199, 4, 12) := ⟨k_1741, kn_X12, kc_X12_shareOf, ⟨by decide +kernel, by decide +kernel, by decide +kernel⟩, ⟨ki_X12_shareOf, kz_X12_shareOf, TX12, 67, rfl⟩⟩
theorem co_X12_438 : COK MT RX12 (438, 0, 200, 2, 12) := ⟨k_1791, kn_X12, kc_X12_fills, ⟨by decide +kernel, by decide +kernel, by decide +kernel⟩, ⟨ki_X12_fills, kz_X12_fills, TX12, 67, rfl⟩⟩
theorem co_X12_441 : COK MT RX12 (441, 0, 201, 0, 12) := ⟨k_1796, kn_X12, kc_X12_ends, ⟨by decide +kernel, by decide +kernel, by decide +kernel⟩, ⟨ki_X12_ends, kz_X12_ends, TX12, 67, rfl⟩⟩
theorem co_X12_444 : COK MT RX12 (444, 0, 191, 1, 12) := ⟨k_1709, kn_X12, kc_X12_isPerson, ⟨by decide +kernel, by decide +kernel, by decide +kernel⟩, ⟨ki_X12_isPerson, kz_X12_isPerson, TX12, 67, rfl⟩⟩
theorem co_X12_447 : COK MT RX12 (447, 0, 192, 1, 12) := ⟨k_1721, kn_X12, kc_X12_isDish, ⟨by decide +kernel, by decide +kernel, by decide +kernel⟩, ⟨ki_X12_isDish, kz_X12_isDish, TX12, 67, rfl⟩⟩
theorem co_X12_450 : COK MT RX12 (450, 0, 196, 2, 12) := ⟨k_1729, kn_X12, kc_X12_canEat, ⟨by decide +kernel, by decide +kernel, by decide +kernel⟩, ⟨ki_X12_canEat, kz_X12_canEat, TX12, 67, rfl⟩⟩
theorem co_X12_453 : COK MT RX12 (453, 1, 182, 4, 12) := ⟨k_1780, kn_X12, kc_X12_copies, ⟨by decide +kernel, by decide +kernel, by decide +kernel⟩, kt_X12_copies⟩
theorem co_X12_457 : COK MT RX12 (457, 0, 207, 0, 12) := ⟨k_1776, kn_X12, kc_X12_keeps, ⟨by decide +kernel, by decide +kernel, by decide +kernel⟩, ⟨ki_X12_keeps, kz_X12_keeps, TX12, 67, rfl⟩⟩
theorem co_X12_460 : COK MT RX12 (460, 0, 202, 3, 12) := ⟨k_1783, kn_X12, kc_X12_eats, ⟨by decide +kernel, by decide +kernel, by decide +kernel⟩, ⟨ki_X12_eats, kz_X12_eats, TX12, 67, rfl⟩⟩
theorem co_X12_464 : COK MT RX12 (464, 0, 203, 2, 12) := ⟨k_1804, kn_X12, kc_X12_aloneOf, ⟨by decide +kernel, by decide +kernel, by decide +kernel⟩, ⟨ki_X12_aloneOf, kz_X12_aloneOf, TX12, 67, rfl⟩⟩
theorem co_X12_470 : COK MT RX12 (470, 0, 212, 1, 12) := ⟨k_1820, kn_X12, kc_X12_goes, ⟨by decide +kernel, by decide +kernel, by decide +kernel⟩, ⟨ki_X12_goes, kz_X12_goes, TX12, 67, rfl⟩⟩
theorem co_X12_473 : COK MT RX12 (473, 0, 214, 2, 12) := ⟨k_1828, kn_X12, kc_X12_planOf, ⟨by decide +kernel, by decide +kernel, by decide +kernel⟩, ⟨ki_X12_planOf, kz_X12_planOf, TX12, 67, rfl⟩⟩
theorem co_X12_482 : COK MT RX12 (482, 0, 217, 2, 12) := ⟨k_1840, kn_X12, kc_X12_seats, ⟨by decide +kernel, by decide +kernel, by decide +kernel⟩, ⟨ki_X12_seats, kz_X12_seats, TX12, 67, rfl⟩⟩
theorem co_X12_485 : COK MT RX12 (485, 0, 216, 1, 12) := ⟨k_1836, kn_X12, kc_X12_laysShares, ⟨by decide +kernel, by decide +kernel, by decide +kernel⟩, ⟨ki_X12_laysShares, kz_X12_laysShares, TX12, 67, rfl⟩⟩
theorem co_X12_488 : COK MT RX12 (488, 0, 219, 2, 12) := ⟨k_1848, kn_X12, kc_X12_nextEater, ⟨by decide +kernel, by decide +kernel, by decide +kernel⟩, ⟨ki_X12_nextEater, kz_X12_nextEater, TX12, 67, rfl⟩⟩
theorem co_X12_491 : COK MT RX12 (491, 0, 222, 3, 12) := ⟨k_1864, kn_X12, kc_X12_fullBy, ⟨by decide +kernel, by decide +kernel, by decide +kernel⟩, ⟨ki_X12_fullBy, kz_X12_fullBy, TX12, 67, rfl⟩⟩
theorem co_X12_494 : COK MT RX12 (494, 0, 223, 2, 12) := ⟨k_1860, kn_X12, kc_X12_isAsTold, ⟨by decide +kernel, by decide +kernel, by decide +kernel⟩, ⟨ki_X12_isAsTold, kz_X12_isAsTold, TX12, 67, rfl⟩⟩
theorem co_X12_497 : COK MT RX12 (497, 0, 224, 2, 12) := ⟨k_1872, kn_X12, kc_X12_mostAlike, ⟨by decide +kernel, by decide +kernel, by decide +kernel⟩, ⟨ki_X12_mostAlike, kz_X12_mostAlike, TX12, 67, rfl⟩⟩
theorem co_X12_500 : COK MT RX12 (500, 0, 225, 2, 12) := ⟨k_1868, kn_X12, kc_X12_askFor, ⟨by decide +kernel, by decide +kernel, by decide +kernel⟩, ⟨ki_X12_askFor, kz_X12_askFor, TX12, 67, rfl⟩⟩
theorem co_X12_503 : COK MT RX12 (503, 1, 146, 1, 12) := ⟨k_1880, kn_X12, kc_X12_bits, ⟨by decide +kernel, by decide +kernel, by decide +kernel⟩, kt_X12_bits⟩
theorem co_X12_506 : COK MT RX12 (506, 0, 227, 1, 12) := ⟨k_1883, kn_X12, kc_X12_spreads, ⟨by decide +kernel, by decide +kernel, by decide +kernel⟩, ⟨ki_X12_spreads, kz_X12_spreads, TX12, 67, rfl⟩⟩
theorem co_X12_512 : COK MT RX12 (512, 0, 230, 3, 12) := ⟨k_1895, kn_X12, kc_X12_pairs, ⟨by decide +kernel, by decide +kernel, by decide +kernel⟩, ⟨ki_X12_pairs, kz_X12_pairs, TX12, 67, rfl⟩⟩
theorem co_X12_516 : COK MT RX12 (516, 1, 232, 4, 12) := ⟨k_1906, kn_X12, kc_X12_gets, ⟨by decide +kernel, by decide +kernel, by decide +kernel⟩, kt_X12_gets⟩
theorem co_X12_520 : COK MT RX12 (520, 1, 233, 4, 12) := ⟨k_1903, kn_X12, kc_X12_isRest, ⟨by decide +kernel, by decide +kernel, by decide +kernel⟩, kt_X12_isRest⟩
theorem co_X12_535 : COK MT RX12 (535, 0, 235, 1, 12) := ⟨k_1917, kn_X12, kc_X12_draws, ⟨by decide +kernel, by decide +kernel, by decide +kernel⟩, ⟨ki_X12_draws, kz_X12_draws, TX12, 67, rfl⟩⟩
theorem co_X12_538 : COK MT RX12 (538, 0, 236, 0, 12) := ⟨k_1913, kn_X12, kc_X12_livesDay, ⟨by decide +kernel, by decide +kernel, by decide +kernel⟩, ⟨ki_X12_livesDay, kz_X12_livesDay, TX12, 67, rfl⟩⟩
theorem co_X12_541 : COK MT RX12 (541, 1, 237, 2, 12) := ⟨k_1925, kn_X12, kc_X12_sum, ⟨by decide +kernel, by decide +kernel, by decide +kernel⟩, kt_X12_sum⟩
theorem co_X12_544 : COK MT RX12 (544, 0, 186, 2, 12) := ⟨k_1932, kn_X12, kc_X12_laysTold, ⟨by decide +kernel, by decide +kernel, by decide +kernel⟩, ⟨ki_X12_laysTold, kz_X12_laysTold, TX12, 67, rfl⟩⟩
theorem co_X12_547 : COK MT RX12 (547, 0, 240, 0, 12) := ⟨k_1940, kn_X12, kc_X12_toldMany, ⟨by decide +kernel, by decide +kernel, by decide +kernel⟩, ⟨ki_X12_toldMany, kz_X12_toldMany, TX12, 67, rfl⟩⟩
def ctX12 : CTT := [(153, 0, 187, 0, 12), (184, 0, 148, 1, 12), (208, 0, 154, 0, 12), (214, 0, 150, 1, 12), (218, 0, 151, 1, 12), (222, 0, 152, 1, 12), (225, 0, 153, 1, 12), (229, 0, 149, 0, 12), (236, 0, 157, 1, 12), (239, 0, 156, 1, 12), (242, 0, 158, 1, 12), (293, 1, 143, 3, 12), (300, 0, 164, 1, 12), (303, 0, 163, 2, 12), (307, 0, 160, 0, 12), (311, 0, 161, 1, 12), (314, 0, 162, 1, 12), (322, 0, 167, 0, 12), (325, 0, 165, 3, 12), (329, 0, 166, 0, 12), (332, 0, 168, 1, 12), (335, 0, 170, 1, 12), (338, 0, 155, 0, 12), (341, 0, 177, 0, 12), (344, 0, 171, 0, 12), (347, 0, 172, 0, 12), (350, 0, 173, 0, 12), (353, 0, 174, 0, 12), (356, 0, 175, 2, 12), (359, 0, 176, 0, 12), (362, 1, 179, 2, 12), (366, 1, 180, 2, 12), (370, 0, 169, 1, 12), (373, 0, 183, 1, 12), (376, 0, 178, 0, 12), (379, 0, 181, 0, 12), (382, 0, 188, 0, 12), (388, 0, 184, 0, 12), (391, 0, 185, 2, 12), (395, 0, 193, 1, 12), (398, 0, 195, 2, 12), (402, 1, 145, 2, 12), (405, 0, 159, 1, 12), (408, 1, 144, 3, 12), (412, 0, 198, 5, 12), (428, 0, 197, 1, 12), (431, 0, 194, 0, 12), (434, 0, 199, 4, 12), (438, 0, 200, 2, 12), (441, 0, 201, 0, 12), (444, 0, 191, 1, 12), (447, 0, 192, 1, 12), (450, 0, 196, 2, 12), (453, 1, 182, 4, 12), (457, 0, 207, 0, 12), (460, 0, 202, 3, 12), (464, 0, 203, 2, 12), (470, 0, 212, 1, 12), (473, 0, 214, 2, 12), (482, 0, 217, 2, 12), (485, 0, 216, 1, 12), (488, 0, 219, 2, 12), (491, 0, 222, 3, 12), (494, 0, 223, 2, 12), (497, 0, 224, 2, 12), (500, 0, 225, 2, 12), (503, 1, 146, 1, 12), (506, 0, 227, 1, 12), (512, 0, 230, 3, 12), (516, 1, 232, 4, 12), (520, 1, 233, 4, 12), (535, 0, 235, 1, 12), (538, 0, 236, 0, 12), (541, 1, 237, 2, 12), (544, 0, 186, 2, 12), (547, 0, 240, 0, 12)]
theorem ctX12_ok : ∀ q ∈ ctX12, COK MT RX12 q := (all_cons co_X12_153 (all_cons co_X12_184 (all_cons co_X12_208 (all_cons co_X12_214 (all_cons co_X12_218 (all_cons co_X12_222 (all_cons co_X12_225 (all_cons co_X12_229 (all_cons co_X12_236 (all_cons co_X12_239 (all_cons co_X12_242 (all_cons co_X12_293 (all_cons co_X12_300 (all_cons co_X12_303 (all_cons co_X12_307 (all_cons co_X12_311 (all_cons co_X12_314 (all_cons co_X12_322 (all_cons co_X12_325 (all_cons co_X12_329 (all_cons co_X12_332 (all_cons co_X12_335 (all_cons co_X12_338 (all_cons co_X12_341 (all_cons co_X12_344 (all_cons co_X12_347 (all_cons co_X12_350 (all_cons co_X12_353 (all_cons co_X12_356 (all_cons co_X12_359 (all_cons co_X12_362 (all_cons co_X12_366 (all_cons co_X12_370 (all_cons co_X12_373 (all_cons co_X12_376 (all_cons co_X12_379 (all_cons co_X12_382 (all_cons co_X12_388 (all_cons co_X12_391 (all_cons co_X12_395 (all_cons co_X12_398 (all_cons co_X12_402 (all_cons co_X12_405 (all_cons co_X12_408 (all_cons co_X12_412 (all_cons co_X12_428 (all_cons co_X12_431 (all_cons co_X12_434 (all_cons co_X12_438 (all_cons co_X12_441 (all_cons co_X12_444 (all_cons co_X12_447 (all_cons co_X12_450 (all_cons co_X12_453 (all_cons co_X12_457 (all_cons co_X12_460 (all_cons co_X12_464 (all_cons co_X12_470 (all_cons co_X12_473 (all_cons co_X12_482 (all_cons co_X12_485 (all_cons co_X12_488 (all_cons co_X12_491 (all_cons co_X12_494 (all_cons co_X12_497 (all_cons co_X12_500 (all_cons co_X12_503 (all_cons co_X12_506 (all_cons co_X12_512 (all_cons co_X12_516 (all_cons co_X12_520 (all_cons co_X12_535 (all_cons co_X12_538 (all_cons co_X12_541 (all_cons co_X12_544 (all_cons co_X12_547 all_nil))))))))))))))))))))))))))))))))))))))))))))))))))))))))))))))))))))))))))))
def skX12 : SKT := ([], [], [], [(416, 0), (421, 1)])
theorem skX12_ok : SKOK RX12 skX12 := ⟨all_nil, all_nil, all_nil, (all_cons ⟨k_1771, k_561, kn_J9, k_562⟩ (all_cons ⟨k_1795, k_564, kn_J9, k_565⟩ all_nil))⟩
def atX12 : List Nat := []
theorem atX12_ok : ATok RX12 atX12 := all_nil
def ftJ0 : List (Nat × Nat × Nat × Nat) := []
theorem ftJ0_ok : ∀ q ∈ ftJ0, FOK RJ0 q := all_nil
def ktJ0 : KT := (ftJ0, [], [])
theorem ktJ0_ok : KOK RJ0 ktJ0 := ⟨ftJ0_ok, all_nil, all_nil⟩
theorem co_J0_335 : COK MT RJ0 (335, 2, 248, 0, 0) := ⟨k_550, kn_J0, kc_J0_coder_7d493, ⟨by decide +kernel, by decide +kernel, by decide +kernel⟩, ⟨ki_J0_coder_7d493, kz_J0_coder_7d493, rfl⟩⟩
theorem co_J0_492 : COK MT RJ0 (492, 2, 249, 0, 0) := ⟨k_540, kn_J0, kc_J0_isLatin1_aae02, ⟨by decide +kernel, by decide +kernel, by decide +kernel⟩, ⟨ki_J0_isLatin1_aae02, kz_J0_isLatin1_aae02, rfl⟩⟩
theorem co_J0_495 : COK MT RJ0 (495, 1, 251, 2, 0) := ⟨k_628, kn_J1, kc_J1_charAt_3b067, ⟨by decide +kernel, by decide +kernel, by decide +kernel⟩, kt_J1_charAt_3b067⟩
theorem co_J0_505 : COK MT RJ0 (505, 2, 244, 0, 0) := ⟨k_546, kn_J0, kc_J0_length_8abf5, ⟨by decide +kernel, by decide +kernel, by decide +kernel⟩, ⟨ki_J0_length_8abf5, kz_J0_length_8abf5, rfl⟩⟩
theorem co_J0_633 : COK MT RJ0 (633, 2, 247, 2, 0) := ⟨k_536, kn_J0, kc_J0_indexOf_7cf53, ⟨by decide +kernel, by decide +kernel, by decide +kernel⟩, ⟨ki_J0_indexOf_7cf53, kz_J0_indexOf_7cf53, rfl⟩⟩
theorem co_J0_637 : COK MT RJ0 (637, 1, 253, 4, 0) := ⟨k_554, kn_J1, kc_J1_indexOf_4cfef, ⟨by decide +kernel, by decide +kernel, by decide +kernel⟩, kt_J1_indexOf_4cfef⟩
theorem co_J0_1059 : COK MT RJ0 (1059, 1, 256, 3, 0) := ⟨k_634, kn_J3, kc_J3_checkIndex_8e157, ⟨by decide +kernel, by decide +kernel, by decide +kernel⟩, kt_J3_checkIndex_8e157⟩
def ctJ0 : CTT := [(335, 2, 248, 0, 0), (492, 2, 249, 0, 0), (495, 1, 251, 2, 0), (505, 2, 244, 0, 0), (633, 2, 247, 2, 0), (637, 1, 253, 4, 0), (1059, 1, 256, 3, 0)]
theorem ctJ0_ok : ∀ q ∈ ctJ0, COK MT RJ0 q := (all_cons co_J0_335 (all_cons co_J0_492 (all_cons co_J0_495 (all_cons co_J0_505 (all_cons co_J0_633 (all_cons co_J0_637 (all_cons co_J0_1059 all_nil)))))))
def skJ0 : SKT := ([], [(9, 0), (15, 1)], [(38, 0), (1053, 1)], [])
theorem skJ0_ok : SKOK RJ0 skJ0 := ⟨all_nil, (all_cons k_1963 (all_cons k_1962 all_nil)), (all_cons k_544 (all_cons k_587 all_nil)), all_nil⟩
def atJ0 : List Nat := []
theorem atJ0_ok : ATok RJ0 atJ0 := all_nil
def ftJ1 : List (Nat × Nat × Nat × Nat) := []
theorem ftJ1_ok : ∀ q ∈ ftJ1, FOK RJ1 q := all_nil
def ktJ1 : KT := (ftJ1, [], [])
theorem ktJ1_ok : KOK RJ1 ktJ1 := ⟨ftJ1_ok, all_nil, all_nil⟩
theorem co_J1_9 : COK MT RJ1 (9, 1, 250, 2, 0) := ⟨k_631, kn_J0, kc_J0_checkIndex_df160, ⟨by decide +kernel, by decide +kernel, by decide +kernel⟩, kt_J0_checkIndex_df160⟩
theorem co_J1_88 : COK MT RJ1 (88, 1, 252, 1, 0) := ⟨k_557, kn_J1, kc_J1_canEncode_9a6ad, ⟨by decide +kernel, by decide +kernel, by decide +kernel⟩, kt_J1_canEncode_9a6ad⟩
theorem co_J1_95 : COK MT RJ1 (95, 1, 254, 4, 0) := ⟨k_566, kn_J1, kc_J1_indexOfChar_4cfef, ⟨by decide +kernel, by decide +kernel, by decide +kernel⟩, kt_J1_indexOfChar_4cfef⟩
def ctJ1 : CTT := [(9, 1, 250, 2, 0), (88, 1, 252, 1, 0), (95, 1, 254, 4, 0)]
theorem ctJ1_ok : ∀ q ∈ ctJ1, COK MT RJ1 q := (all_cons co_J1_9 (all_cons co_J1_88 (all_cons co_J1_95 all_nil)))
def skJ1 : SKT := ([], [], [], [(38, 1), (92, 0)])
theorem skJ1_ok : SKOK RJ1 skJ1 := ⟨all_nil, all_nil, all_nil, (all_cons ⟨k_563, k_564, kn_J9, k_565⟩ (all_cons ⟨k_560, k_561, kn_J9, k_562⟩ all_nil))⟩
def atJ1 : List Nat := []
theorem atJ1_ok : ATok RJ1 atJ1 := all_nil
def ftJ3 : List (Nat × Nat × Nat × Nat) := []
theorem ftJ3_ok : ∀ q ∈ ftJ3, FOK RJ3 q := all_nil
def ktJ3 : KT := (ftJ3, [], [])
theorem ktJ3_ok : KOK RJ3 ktJ3 := ⟨ftJ3_ok, all_nil, all_nil⟩
def ctJ3 : CTT := []
theorem ctJ3_ok : ∀ q ∈ ctJ3, COK MT RJ3 q := all_nil
def skJ3 : SKT := ([], [], [], [])
theorem skJ3_ok : SKOK RJ3 skJ3 := ⟨all_nil, all_nil, all_nil, all_nil⟩
def atJ3 : List Nat := []
theorem atJ3_ok : ATok RJ3 atJ3 := all_nil
def ftJ6 : List (Nat × Nat × Nat × Nat) := []
theorem ftJ6_ok : ∀ q ∈ ftJ6, FOK RJ6 q := all_nil
def ktJ6 : KT := (ftJ6, [(264, 65536), (265, 1431655765), (266, 858993459), (267, 252645135)], [])
theorem ktJ6_ok : KOK RJ6 ktJ6 := ⟨ftJ6_ok, (all_cons k_1165 (all_cons k_1131 (all_cons k_1132 (all_cons k_1133 all_nil)))), all_nil⟩
def ctJ6 : CTT := []
theorem ctJ6_ok : ∀ q ∈ ctJ6, COK MT RJ6 q := all_nil
def skJ6 : SKT := ([], [], [], [])
theorem skJ6_ok : SKOK RJ6 skJ6 := ⟨all_nil, all_nil, all_nil, all_nil⟩
def atJ6 : List Nat := []
theorem atJ6_ok : ATok RJ6 atJ6 := all_nil
def ftJ7 : List (Nat × Nat × Nat × Nat) := []
theorem ftJ7_ok : ∀ q ∈ ftJ7, FOK RJ7 q := all_nil
def ktJ7 : KT := (ftJ7, [], [])
theorem ktJ7_ok : KOK RJ7 ktJ7 := ⟨ftJ7_ok, all_nil, all_nil⟩
def ctJ7 : CTT := []
theorem ctJ7_ok : ∀ q ∈ ctJ7, COK MT RJ7 q := all_nil
def skJ7 : SKT := ([], [], [], [])
theorem skJ7_ok : SKOK RJ7 skJ7 := ⟨all_nil, all_nil, all_nil, all_nil⟩
def atJ7 : List Nat := []
theorem atJ7_ok : ATok RJ7 atJ7 := all_nil
